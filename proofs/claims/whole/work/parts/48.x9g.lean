set_option maxHeartbeats 4000000 in
set_option maxRecDepth 100000 in
theorem kX9_place_b1 (l : Launch) (D : va_G) (z : Nat × Nat × Nat) (u0 : Nat) (u1 : Nat) (u2 : Nat) (u3 : Nat) (u4 : Nat) (u5 : Nat) (u6 : Nat) (u7 : Nat) (u8 : Nat) (u9 : Nat) (u10 : Nat) (u11 : Nat) (kn : Nat) (ik : Bool) (ty : Nat) (ta : Nat) (iw : Bool) (x : Int32) (y : Int32) (k : Int32) (hb : (rgB x 12 && rgB y 12) = false) : CM l yX9_place wsX9_place ({ frames := 2, cells := 0, slots := 0, locals := 44 } : Room) D z [.ref u0, .int x, .int y, .int k] [(u0, .inr (9, [.ref u1, .ref u2, .ref u3, .ref u4, .ref u5, .ref u6, .int (nI kn), .ref u7, .int (bB ik), .ref u8, .int (nI ty), .ref u9, .int (nI ta), .int (bB iw), .ref u10, .ref u11]))] (fun r_ w_ => r_ = some (.int (-1)) ∧ w_ = [(u0, .inr (9, [.ref u1, .ref u2, .ref u3, .ref u4, .ref u5, .ref u6, .int (nI kn), .ref u7, .int (bB ik), .ref u8, .int (nI ty), .ref u9, .int (nI ta), .int (bB iw), .ref u10, .ref u11]))]) 0 0 := by
  refine CM_int (own := RX9) (cc := cX9_place) (maxL := 5) (L0 := [(0, .ref u0), (1, .int x), (2, .int y), (3, .int k)]) (by decide) rfl rfl (Nat.le_of_ble_eq_true rfl) rfl (fun X O E => ?_)
  refine g_iload_n O dX9_place_0 1 rfl rfl ?_
  refine g_iload_n O dX9_place_1 2 rfl rfl ?_
  refine g_callS (As := [.int x, .int y]) (wr := [(u0, .inr (9, [.ref u1, .ref u2, .ref u3, .ref u4, .ref u5, .ref u6, .int (nI kn), .ref u7, .int (bB ik), .ref u8, .int (nI ty), .ref u9, .int (nI ta), .int (bB iw), .ref u10, .ref u11]))]) O (kX9_isOn l D z x y ) gX9_place_X9_isOn rfl rfl rfl 2 (by decide +kernel) (by decide) (by decide) [] [0] rfl (by decide) rfl (by decide) (by decide) rfl rfl (Nat.le_of_ble_eq_true rfl) dX9_place_2 (fun r_1 w_2 hp => ?_)
  obtain ⟨rfl, rfl⟩ := hp
  refine g_eq (st' := [.int (bB (rgB x 12 && rgB y 12))]) (ws' := [(u0, .inr (9, [.ref u1, .ref u2, .ref u3, .ref u4, .ref u5, .ref u6, .int (nI kn), .ref u7, .int (bB ik), .ref u8, .int (nI ty), .ref u9, .int (nI ta), .int (bB iw), .ref u10, .ref u11]))]) rfl rfl rfl ?_
  refine g_if_neB (tgt := 10) O dX9_place_5 (by decide) (fun c_3 => absurd c_3 (by rw [hb]; decide)) (fun c_3 => ?_)
  refine g_iconst (x := (-1)) O dX9_place_8 (by decide +kernel) ?_
  exact E 9 _ (-1) _ dX9_place_9 ⟨rfl, rfl⟩

set_option maxHeartbeats 4000000 in
set_option maxRecDepth 100000 in
theorem kX9_place_b2 (l : Launch) (D : va_G) (z : Nat × Nat × Nat) (u0 : Nat) (u1 : Nat) (u2 : Nat) (u3 : Nat) (u4 : Nat) (u5 : Nat) (u6 : Nat) (u7 : Nat) (u8 : Nat) (u9 : Nat) (u10 : Nat) (u11 : Nat) (kn : Nat) (ik : Bool) (ty : Nat) (ta : Nat) (iw : Bool) (x : Nat) (y : Nat) (k : Int32) (hx : x < 12) (hy : y < 12) (hsw : k < 0 ∨ nI 4 ≤ k) : CM l yX9_place wsX9_place ({ frames := 2, cells := 0, slots := 0, locals := 44 } : Room) D z [.ref u0, .int (nI x), .int (nI y), .int k] [(u0, .inr (9, [.ref u1, .ref u2, .ref u3, .ref u4, .ref u5, .ref u6, .int (nI kn), .ref u7, .int (bB ik), .ref u8, .int (nI ty), .ref u9, .int (nI ta), .int (bB iw), .ref u10, .ref u11]))] (fun r_ w_ => r_ = some (.int (-2)) ∧ w_ = [(u0, .inr (9, [.ref u1, .ref u2, .ref u3, .ref u4, .ref u5, .ref u6, .int (nI kn), .ref u7, .int (bB ik), .ref u8, .int (nI ty), .ref u9, .int (nI ta), .int (bB iw), .ref u10, .ref u11]))]) 0 0 := by
  refine CM_int (own := RX9) (cc := cX9_place) (maxL := 5) (L0 := [(0, .ref u0), (1, .int (nI x)), (2, .int (nI y)), (3, .int k)]) (by decide) rfl rfl (Nat.le_of_ble_eq_true rfl) rfl (fun X O E => ?_)
  refine g_iload_n O dX9_place_0 1 rfl rfl ?_
  refine g_iload_n O dX9_place_1 2 rfl rfl ?_
  refine g_callS (As := [.int (nI x), .int (nI y)]) (wr := [(u0, .inr (9, [.ref u1, .ref u2, .ref u3, .ref u4, .ref u5, .ref u6, .int (nI kn), .ref u7, .int (bB ik), .ref u8, .int (nI ty), .ref u9, .int (nI ta), .int (bB iw), .ref u10, .ref u11]))]) O (kX9_isOn l D z (nI x) (nI y) ) gX9_place_X9_isOn rfl rfl rfl 2 (by decide +kernel) (by decide) (by decide) [] [0] rfl (by decide) rfl (by decide) (by decide) rfl rfl (Nat.le_of_ble_eq_true rfl) dX9_place_2 (fun r_1 w_2 hp => ?_)
  obtain ⟨rfl, rfl⟩ := hp
  refine g_eq (st' := [.int (bB (rgB (nI x) 12 && rgB (nI y) 12))]) (ws' := [(u0, .inr (9, [.ref u1, .ref u2, .ref u3, .ref u4, .ref u5, .ref u6, .int (nI kn), .ref u7, .int (bB ik), .ref u8, .int (nI ty), .ref u9, .int (nI ta), .int (bB iw), .ref u10, .ref u11]))]) rfl rfl rfl ?_
  refine g_if_neB (tgt := 10) O dX9_place_5 (by decide) (fun c_3 => ?_) (fun c_3 => absurd c_3 (by rw [rgB_t hx (by decide), rgB_t hy (by decide)]; decide))
  refine g_bipush (x := (nI 12)) O dX9_place_10 (by decide +kernel) ?_
  refine g_iload_n O dX9_place_12 2 rfl rfl ?_
  refine g_imulN O dX9_place_13 ?_
  refine g_iload_n O dX9_place_14 1 rfl rfl ?_
  refine g_iaddN O dX9_place_15 ?_
  refine g_istore (L' := [(0, .ref u0), (1, .int (nI x)), (2, .int (nI y)), (3, .int k), (4, .int (nI ((12 * y) + x)))]) O dX9_place_16 (by decide) [1, 2, 3, 4, 0] rfl ?_
  refine g_iload_n O dX9_place_18 3 rfl rfl ?_
  refine g_tableO (tgt := 139) (N := 4) O dX9_place_19 hsw (by decide) (by decide) (by decide) ?_
  refine g_bipush (x := (-2)) O dX9_place_139 (by decide +kernel) ?_
  exact E 141 _ (-2) _ dX9_place_141 ⟨rfl, rfl⟩

theorem hiX9_place_X9 : ∀ w ∈ wsX90, w ∈ wsX9_place := by decide +kernel
set_option maxHeartbeats 4000000 in
set_option maxRecDepth 100000 in
theorem kX9_place_0 (l : Launch) (D : va_G) (z : Nat × Nat × Nat) (u0 : Nat) (u1 : Nat) (u2 : Nat) (u3 : Nat) (u4 : Nat) (u5 : Nat) (u6 : Nat) (u7 : Nat) (u8 : Nat) (u9 : Nat) (u10 : Nat) (u11 : Nat) (kn : Nat) (ik : Bool) (ty : Nat) (ta : Nat) (iw : Bool) (M : Nat → Int32) (s : SV) (x : Nat) (y : Nat) (hx : x < 12) (hy : y < 12) (hM : RM M s) : CM l yX9_place wsX9_place ({ frames := 2, cells := 0, slots := 0, locals := 44 } : Room) D z [.ref u0, .int (nI x), .int (nI y), .int (nI 0)] [(u0, .inr (9, [.ref u1, .ref u2, .ref u3, .ref u4, .ref u5, .ref u6, .int (nI kn), .ref u7, .int (bB ik), .ref u8, .int (nI ty), .ref u9, .int (nI ta), .int (bB iw), .ref u10, .ref u11])), (u5, .inl ((TY D)[0].1, 208, .inl M))] (fun r_ w_ => r_ = some (.int (nI (sv_g s (y * 12 + x)))) ∧ w_ = [(u0, .inr (9, [.ref u1, .ref u2, .ref u3, .ref u4, .ref u5, .ref u6, .int (nI kn), .ref u7, .int (bB ik), .ref u8, .int (nI ty), .ref u9, .int (nI ta), .int (bB iw), .ref u10, .ref u11])), (u5, .inl ((TY D)[0].1, 208, .inl M))]) 0 0 := by
  refine CM_int (own := RX9) (cc := cX9_place) (maxL := 5) (L0 := [(0, .ref u0), (1, .int (nI x)), (2, .int (nI y)), (3, .int (nI 0))]) (by decide) rfl rfl (Nat.le_of_ble_eq_true rfl) rfl (fun X O E => ?_)
  refine g_iload_n O dX9_place_0 1 rfl rfl ?_
  refine g_iload_n O dX9_place_1 2 rfl rfl ?_
  refine g_callS (As := [.int (nI x), .int (nI y)]) (wr := [(u0, .inr (9, [.ref u1, .ref u2, .ref u3, .ref u4, .ref u5, .ref u6, .int (nI kn), .ref u7, .int (bB ik), .ref u8, .int (nI ty), .ref u9, .int (nI ta), .int (bB iw), .ref u10, .ref u11])), (u5, .inl ((TY D)[0].1, 208, .inl M))]) O (kX9_isOn l D z (nI x) (nI y) ) gX9_place_X9_isOn rfl rfl rfl 2 (by decide +kernel) (by decide) (by decide) [] [0, 1] rfl (by decide) rfl (by decide) (by decide) rfl rfl (Nat.le_of_ble_eq_true rfl) dX9_place_2 (fun r_1 w_2 hp => ?_)
  obtain ⟨rfl, rfl⟩ := hp
  refine g_eq (st' := [.int (bB (rgB (nI x) 12 && rgB (nI y) 12))]) (ws' := [(u0, .inr (9, [.ref u1, .ref u2, .ref u3, .ref u4, .ref u5, .ref u6, .int (nI kn), .ref u7, .int (bB ik), .ref u8, .int (nI ty), .ref u9, .int (nI ta), .int (bB iw), .ref u10, .ref u11])), (u5, .inl ((TY D)[0].1, 208, .inl M))]) rfl rfl rfl ?_
  refine g_if_neB (tgt := 10) O dX9_place_5 (by decide) (fun c_3 => ?_) (fun c_3 => absurd c_3 (by rw [rgB_t hx (by decide), rgB_t hy (by decide)]; decide))
  refine g_bipush (x := (nI 12)) O dX9_place_10 (by decide +kernel) ?_
  refine g_iload_n O dX9_place_12 2 rfl rfl ?_
  refine g_imulN O dX9_place_13 ?_
  refine g_iload_n O dX9_place_14 1 rfl rfl ?_
  refine g_iaddN O dX9_place_15 ?_
  refine g_istore (L' := [(0, .ref u0), (1, .int (nI x)), (2, .int (nI y)), (3, .int (nI 0)), (4, .int (nI ((12 * y) + x)))]) O dX9_place_16 (by decide) [1, 2, 3, 4, 0] rfl ?_
  refine g_iload_n O dX9_place_18 3 rfl rfl ?_
  refine g_tableIn (off := 29) (tgt := 48) O dX9_place_19 (by decide +kernel) (by decide +kernel) (by decide +kernel) (by decide) ?_
  refine g_aload_n O dX9_place_48 0 rfl rfl ?_
  refine g_get O hiX9_place_X9 0 rfl rfl 4 (by decide) (by decide +kernel) rfl dX9_place_49 ?_
  refine g_iconst (x := (nI 0)) O dX9_place_52 (by decide +kernel) ?_
  refine g_iload O dX9_place_53 4 rfl ?_
  refine g_iaddN O dX9_place_55 ?_
  refine g_ialdN O 1 rfl (by omega) (by omega) dX9_place_56 ?_
  refine g_eq (st' := [.int (nI (sv_g s (y * 12 + x)))]) (by rw [RM_gE hM (show 0 + ((12 * y) + x) = y * 12 + x by omega) (by omega)]) rfl rfl ?_
  exact E 57 _ (nI (sv_g s (y * 12 + x))) _ dX9_place_57 ⟨rfl, rfl⟩

set_option maxHeartbeats 4000000 in
set_option maxRecDepth 100000 in
theorem kX9_place_1 (l : Launch) (D : va_G) (z : Nat × Nat × Nat) (u0 : Nat) (u1 : Nat) (u2 : Nat) (u3 : Nat) (u4 : Nat) (u5 : Nat) (u6 : Nat) (u7 : Nat) (u8 : Nat) (u9 : Nat) (u10 : Nat) (u11 : Nat) (kn : Nat) (ik : Bool) (ty : Nat) (ta : Nat) (iw : Bool) (M : Nat → Int32) (s : SV) (x : Nat) (y : Nat) (hx : x < 12) (hy : y < 12) (hM : RM M s) (hla : sv_la s = -1 ∨ ∃ w, w < 48 ∧ sv_la s = nI w) : CM l yX9_place wsX9_place ({ frames := 2, cells := 0, slots := 0, locals := 44 } : Room) D z [.ref u0, .int (nI x), .int (nI y), .int (nI 1)] [(u0, .inr (9, [.ref u1, .ref u2, .ref u3, .ref u4, .ref u5, .ref u6, .int (nI kn), .ref u7, .int (bB ik), .ref u8, .int (nI ty), .ref u9, .int (nI ta), .int (bB iw), .ref u10, .ref u11])), (u4, .inl ((TY D)[0].1, 6912, .inl SWT)), (u5, .inl ((TY D)[0].1, 208, .inl M))] (fun r_ w_ => r_ = some (.int (laF (sv_la s) (fun w => SW w (12 * y + x)))) ∧ w_ = [(u0, .inr (9, [.ref u1, .ref u2, .ref u3, .ref u4, .ref u5, .ref u6, .int (nI kn), .ref u7, .int (bB ik), .ref u8, .int (nI ty), .ref u9, .int (nI ta), .int (bB iw), .ref u10, .ref u11])), (u4, .inl ((TY D)[0].1, 6912, .inl SWT)), (u5, .inl ((TY D)[0].1, 208, .inl M))]) 0 0 := by
  refine CM_int (own := RX9) (cc := cX9_place) (maxL := 5) (L0 := [(0, .ref u0), (1, .int (nI x)), (2, .int (nI y)), (3, .int (nI 1))]) (by decide) rfl rfl (Nat.le_of_ble_eq_true rfl) rfl (fun X O E => ?_)
  refine g_iload_n O dX9_place_0 1 rfl rfl ?_
  refine g_iload_n O dX9_place_1 2 rfl rfl ?_
  refine g_callS (As := [.int (nI x), .int (nI y)]) (wr := [(u0, .inr (9, [.ref u1, .ref u2, .ref u3, .ref u4, .ref u5, .ref u6, .int (nI kn), .ref u7, .int (bB ik), .ref u8, .int (nI ty), .ref u9, .int (nI ta), .int (bB iw), .ref u10, .ref u11])), (u4, .inl ((TY D)[0].1, 6912, .inl SWT)), (u5, .inl ((TY D)[0].1, 208, .inl M))]) O (kX9_isOn l D z (nI x) (nI y) ) gX9_place_X9_isOn rfl rfl rfl 2 (by decide +kernel) (by decide) (by decide) [] [0, 1, 2] rfl (by decide) rfl (by decide) (by decide) rfl rfl (Nat.le_of_ble_eq_true rfl) dX9_place_2 (fun r_1 w_2 hp => ?_)
  obtain ⟨rfl, rfl⟩ := hp
  refine g_eq (st' := [.int (bB (rgB (nI x) 12 && rgB (nI y) 12))]) (ws' := [(u0, .inr (9, [.ref u1, .ref u2, .ref u3, .ref u4, .ref u5, .ref u6, .int (nI kn), .ref u7, .int (bB ik), .ref u8, .int (nI ty), .ref u9, .int (nI ta), .int (bB iw), .ref u10, .ref u11])), (u4, .inl ((TY D)[0].1, 6912, .inl SWT)), (u5, .inl ((TY D)[0].1, 208, .inl M))]) rfl rfl rfl ?_
  refine g_if_neB (tgt := 10) O dX9_place_5 (by decide) (fun c_3 => ?_) (fun c_3 => absurd c_3 (by rw [rgB_t hx (by decide), rgB_t hy (by decide)]; decide))
  refine g_bipush (x := (nI 12)) O dX9_place_10 (by decide +kernel) ?_
  refine g_iload_n O dX9_place_12 2 rfl rfl ?_
  refine g_imulN O dX9_place_13 ?_
  refine g_iload_n O dX9_place_14 1 rfl rfl ?_
  refine g_iaddN O dX9_place_15 ?_
  refine g_istore (L' := [(0, .ref u0), (1, .int (nI x)), (2, .int (nI y)), (3, .int (nI 1)), (4, .int (nI ((12 * y) + x)))]) O dX9_place_16 (by decide) [1, 2, 3, 4, 0] rfl ?_
  refine g_iload_n O dX9_place_18 3 rfl rfl ?_
  refine g_tableIn (off := 39) (tgt := 58) O dX9_place_19 (by decide +kernel) (by decide +kernel) (by decide +kernel) (by decide) ?_
  rcases hla with hla | ⟨w, hw48, hla⟩
  ·
    refine g_aload_n O dX9_place_58 0 rfl rfl ?_
    refine g_get O hiX9_place_X9 0 rfl rfl 4 (by decide) (by decide +kernel) rfl dX9_place_59 ?_
    refine g_sipush (x := (nI 153)) O dX9_place_62 (by decide +kernel) ?_
    refine g_ialdN O 2 rfl (by omega) (by omega) dX9_place_65 ?_
    refine g_eq (st' := [.int (-5)]) (by rw [RM_la hM, hla, laM_m1]) rfl rfl ?_
    refine g_bipush (x := (-5)) O dX9_place_66 (by decide +kernel) ?_
    refine g_icmp_ne (tgt := 76) O dX9_place_68 (by decide) (fun c_4 => absurd c_4 (fun h => h rfl)) (fun c_4 => ?_)
    refine g_bipush (x := (-5)) O dX9_place_71 (by decide +kernel) ?_
    refine g_goto (tgt := 90) O dX9_place_73 (by decide) ?_
    exact E 90 _ (-5) _ dX9_place_90 (by rw [hla]; first | exact ⟨rfl, rfl⟩ | (rw [laF_n hw48]; exact ⟨rfl, rfl⟩))
  ·
    refine g_aload_n O dX9_place_58 0 rfl rfl ?_
    refine g_get O hiX9_place_X9 0 rfl rfl 4 (by decide) (by decide +kernel) rfl dX9_place_59 ?_
    refine g_sipush (x := (nI 153)) O dX9_place_62 (by decide +kernel) ?_
    refine g_ialdN O 2 rfl (by omega) (by omega) dX9_place_65 ?_
    refine g_eq (st' := [.int (nI w)]) (by rw [RM_la hM, hla, laM_n hw48]) rfl rfl ?_
    refine g_bipush (x := (-5)) O dX9_place_66 (by decide +kernel) ?_
    refine g_icmp_ne (tgt := 76) O dX9_place_68 (by decide) (fun c_5 => ?_) (fun c_5 => absurd c_5 (fun h => h (fun e => by have h2 := (nI_toInt (n := w) (by omega)).symm.trans (congrArg Int32.toInt e); have h3 : (-5 : Int32).toInt = -5 := by decide +kernel; rw [h3] at h2; omega)))
    refine g_aload_n O dX9_place_76 0 rfl rfl ?_
    refine g_aload_n O dX9_place_77 0 rfl rfl ?_
    refine g_get O hiX9_place_X9 0 rfl rfl 4 (by decide) (by decide +kernel) rfl dX9_place_78 ?_
    refine g_sipush (x := (nI 153)) O dX9_place_81 (by decide +kernel) ?_
    refine g_ialdN O 2 rfl (by omega) (by omega) dX9_place_84 ?_
    refine g_eq (st' := [.int (nI w), .ref u0]) (by rw [RM_la hM, hla, laM_n hw48]) rfl rfl ?_
    refine g_iload O dX9_place_85 4 rfl ?_
    refine g_callV (As := [.int (nI w), .int (nI ((12 * y) + x))]) (wr := [(u5, .inl ((TY D)[0].1, 208, .inl M))]) O (kX9_swingAt l D z u0 u1 u2 u3 u4 u5 u6 u7 u8 u9 u10 u11 kn ik ty ta iw w ((12 * y) + x) (by first | assumption | omega) (by first | assumption | omega)) gX9_place_X9_swingAt rfl rfl rfl 2 (by decide +kernel) (by decide) (by decide) (q0 := 0) rfl rfl rfl [0, 1] [2] rfl (by decide) rfl (by decide) (by decide) rfl rfl (Nat.le_of_ble_eq_true rfl) dX9_place_87 (fun r_6 w_7 hp => ?_)
    obtain ⟨rfl, rfl⟩ := hp
    refine g_eq (st' := [.int (SW w ((12 * y) + x))]) (ws' := [(u5, .inl ((TY D)[0].1, 208, .inl M)), (u0, .inr (9, [.ref u1, .ref u2, .ref u3, .ref u4, .ref u5, .ref u6, .int (nI kn), .ref u7, .int (bB ik), .ref u8, .int (nI ty), .ref u9, .int (nI ta), .int (bB iw), .ref u10, .ref u11])), (u4, .inl ((TY D)[0].1, 6912, .inl SWT))]) rfl rfl rfl ?_
    refine g_perm (ws' := [(u0, .inr (9, [.ref u1, .ref u2, .ref u3, .ref u4, .ref u5, .ref u6, .int (nI kn), .ref u7, .int (bB ik), .ref u8, .int (nI ty), .ref u9, .int (nI ta), .int (bB iw), .ref u10, .ref u11])), (u4, .inl ((TY D)[0].1, 6912, .inl SWT)), (u5, .inl ((TY D)[0].1, 208, .inl M))]) [1, 2, 0] rfl (by decide) ?_
    exact E 90 _ (SW w ((12 * y) + x)) _ dX9_place_90 (by rw [hla]; first | exact ⟨rfl, rfl⟩ | (rw [laF_n hw48]; exact ⟨rfl, rfl⟩))

set_option maxHeartbeats 4000000 in
set_option maxRecDepth 100000 in
theorem kX9_place_2 (l : Launch) (D : va_G) (z : Nat × Nat × Nat) (u0 : Nat) (u1 : Nat) (u2 : Nat) (u3 : Nat) (u4 : Nat) (u5 : Nat) (u6 : Nat) (u7 : Nat) (u8 : Nat) (u9 : Nat) (u10 : Nat) (u11 : Nat) (kn : Nat) (ik : Bool) (ty : Nat) (ta : Nat) (iw : Bool) (M : Nat → Int32) (s : SV) (x : Nat) (y : Nat) (hx : x < 12) (hy : y < 12) (hM : RM M s) (hla : sv_la s = -1 ∨ ∃ w, w < 48 ∧ sv_la s = nI w) : CM l yX9_place wsX9_place ({ frames := 2, cells := 0, slots := 0, locals := 44 } : Room) D z [.ref u0, .int (nI x), .int (nI y), .int (nI 2)] [(u0, .inr (9, [.ref u1, .ref u2, .ref u3, .ref u4, .ref u5, .ref u6, .int (nI kn), .ref u7, .int (bB ik), .ref u8, .int (nI ty), .ref u9, .int (nI ta), .int (bB iw), .ref u10, .ref u11])), (u4, .inl ((TY D)[0].1, 6912, .inl SWT)), (u5, .inl ((TY D)[0].1, 208, .inl M))] (fun r_ w_ => r_ = some (.int (laF (sv_la s) (fun w => bB (stB s w (12 * y + x))))) ∧ w_ = [(u0, .inr (9, [.ref u1, .ref u2, .ref u3, .ref u4, .ref u5, .ref u6, .int (nI kn), .ref u7, .int (bB ik), .ref u8, .int (nI ty), .ref u9, .int (nI ta), .int (bB iw), .ref u10, .ref u11])), (u4, .inl ((TY D)[0].1, 6912, .inl SWT)), (u5, .inl ((TY D)[0].1, 208, .inl M))]) 0 0 := by
  refine CM_int (own := RX9) (cc := cX9_place) (maxL := 5) (L0 := [(0, .ref u0), (1, .int (nI x)), (2, .int (nI y)), (3, .int (nI 2))]) (by decide) rfl rfl (Nat.le_of_ble_eq_true rfl) rfl (fun X O E => ?_)
  refine g_iload_n O dX9_place_0 1 rfl rfl ?_
  refine g_iload_n O dX9_place_1 2 rfl rfl ?_
  refine g_callS (As := [.int (nI x), .int (nI y)]) (wr := [(u0, .inr (9, [.ref u1, .ref u2, .ref u3, .ref u4, .ref u5, .ref u6, .int (nI kn), .ref u7, .int (bB ik), .ref u8, .int (nI ty), .ref u9, .int (nI ta), .int (bB iw), .ref u10, .ref u11])), (u4, .inl ((TY D)[0].1, 6912, .inl SWT)), (u5, .inl ((TY D)[0].1, 208, .inl M))]) O (kX9_isOn l D z (nI x) (nI y) ) gX9_place_X9_isOn rfl rfl rfl 2 (by decide +kernel) (by decide) (by decide) [] [0, 1, 2] rfl (by decide) rfl (by decide) (by decide) rfl rfl (Nat.le_of_ble_eq_true rfl) dX9_place_2 (fun r_1 w_2 hp => ?_)
  obtain ⟨rfl, rfl⟩ := hp
  refine g_eq (st' := [.int (bB (rgB (nI x) 12 && rgB (nI y) 12))]) (ws' := [(u0, .inr (9, [.ref u1, .ref u2, .ref u3, .ref u4, .ref u5, .ref u6, .int (nI kn), .ref u7, .int (bB ik), .ref u8, .int (nI ty), .ref u9, .int (nI ta), .int (bB iw), .ref u10, .ref u11])), (u4, .inl ((TY D)[0].1, 6912, .inl SWT)), (u5, .inl ((TY D)[0].1, 208, .inl M))]) rfl rfl rfl ?_
  refine g_if_neB (tgt := 10) O dX9_place_5 (by decide) (fun c_3 => ?_) (fun c_3 => absurd c_3 (by rw [rgB_t hx (by decide), rgB_t hy (by decide)]; decide))
  refine g_bipush (x := (nI 12)) O dX9_place_10 (by decide +kernel) ?_
  refine g_iload_n O dX9_place_12 2 rfl rfl ?_
  refine g_imulN O dX9_place_13 ?_
  refine g_iload_n O dX9_place_14 1 rfl rfl ?_
  refine g_iaddN O dX9_place_15 ?_
  refine g_istore (L' := [(0, .ref u0), (1, .int (nI x)), (2, .int (nI y)), (3, .int (nI 2)), (4, .int (nI ((12 * y) + x)))]) O dX9_place_16 (by decide) [1, 2, 3, 4, 0] rfl ?_
  refine g_iload_n O dX9_place_18 3 rfl rfl ?_
  refine g_tableIn (off := 72) (tgt := 91) O dX9_place_19 (by decide +kernel) (by decide +kernel) (by decide +kernel) (by decide) ?_
  rcases hla with hla | ⟨w, hw48, hla⟩
  ·
    refine g_aload_n O dX9_place_91 0 rfl rfl ?_
    refine g_get O hiX9_place_X9 0 rfl rfl 4 (by decide) (by decide +kernel) rfl dX9_place_92 ?_
    refine g_sipush (x := (nI 153)) O dX9_place_95 (by decide +kernel) ?_
    refine g_ialdN O 2 rfl (by omega) (by omega) dX9_place_98 ?_
    refine g_eq (st' := [.int (-5)]) (by rw [RM_la hM, hla, laM_m1]) rfl rfl ?_
    refine g_bipush (x := (-5)) O dX9_place_99 (by decide +kernel) ?_
    refine g_icmp_ne (tgt := 109) O dX9_place_101 (by decide) (fun c_4 => absurd c_4 (fun h => h rfl)) (fun c_4 => ?_)
    refine g_bipush (x := (-5)) O dX9_place_104 (by decide +kernel) ?_
    refine g_goto (tgt := 131) O dX9_place_106 (by decide) ?_
    exact E 131 _ (-5) _ dX9_place_131 (by rw [hla]; first | exact ⟨rfl, rfl⟩ | (rw [laF_n hw48, h123]; exact ⟨rfl, rfl⟩))
  ·
    refine g_aload_n O dX9_place_91 0 rfl rfl ?_
    refine g_get O hiX9_place_X9 0 rfl rfl 4 (by decide) (by decide +kernel) rfl dX9_place_92 ?_
    refine g_sipush (x := (nI 153)) O dX9_place_95 (by decide +kernel) ?_
    refine g_ialdN O 2 rfl (by omega) (by omega) dX9_place_98 ?_
    refine g_eq (st' := [.int (nI w)]) (by rw [RM_la hM, hla, laM_n hw48]) rfl rfl ?_
    refine g_bipush (x := (-5)) O dX9_place_99 (by decide +kernel) ?_
    refine g_icmp_ne (tgt := 109) O dX9_place_101 (by decide) (fun c_5 => ?_) (fun c_5 => absurd c_5 (fun h => h (fun e => by have h2 := (nI_toInt (n := w) (by omega)).symm.trans (congrArg Int32.toInt e); have h3 : (-5 : Int32).toInt = -5 := by decide +kernel; rw [h3] at h2; omega)))
    refine g_aload_n O dX9_place_109 0 rfl rfl ?_
    refine g_aload_n O dX9_place_110 0 rfl rfl ?_
    refine g_get O hiX9_place_X9 0 rfl rfl 4 (by decide) (by decide +kernel) rfl dX9_place_111 ?_
    refine g_sipush (x := (nI 153)) O dX9_place_114 (by decide +kernel) ?_
    refine g_ialdN O 2 rfl (by omega) (by omega) dX9_place_117 ?_
    refine g_eq (st' := [.int (nI w), .ref u0]) (by rw [RM_la hM, hla, laM_n hw48]) rfl rfl ?_
    refine g_iload O dX9_place_118 4 rfl ?_
    refine g_callV (As := [.int (nI w), .int (nI ((12 * y) + x))]) (wr := []) O (kX9_isStill l D z u0 u1 u2 u3 u4 u5 u6 u7 u8 u9 u10 u11 kn ik ty ta iw M s w ((12 * y) + x) (by first | assumption | omega) (by first | assumption | omega) (by first | assumption | omega)) gX9_place_X9_isStill rfl rfl rfl 2 (by decide +kernel) (by decide) (by decide) (q0 := 0) rfl rfl rfl [0, 1, 2] [] rfl (by decide) rfl (by decide) (by decide) rfl rfl (Nat.le_of_ble_eq_true rfl) dX9_place_120 (fun r_6 w_7 hp => ?_)
    obtain ⟨rfl, rfl⟩ := hp
    refine g_eq (st' := [.int (bB (stB s w ((12 * y) + x)))]) (ws' := [(u0, .inr (9, [.ref u1, .ref u2, .ref u3, .ref u4, .ref u5, .ref u6, .int (nI kn), .ref u7, .int (bB ik), .ref u8, .int (nI ty), .ref u9, .int (nI ta), .int (bB iw), .ref u10, .ref u11])), (u4, .inl ((TY D)[0].1, 6912, .inl SWT)), (u5, .inl ((TY D)[0].1, 208, .inl M))]) rfl rfl rfl ?_
    refine g_if_eqB (tgt := 130) O dX9_place_123 (by decide) (fun c_8 => ?_) (fun c_8 => ?_)
    ·
      have h123 := c_8
      refine g_iconst (x := (nI 0)) O dX9_place_130 (by decide +kernel) ?_
      exact E 131 _ (nI 0) _ dX9_place_131 (by rw [hla]; first | exact ⟨rfl, rfl⟩ | (rw [laF_n hw48, h123]; exact ⟨rfl, rfl⟩))
    ·
      have h123 := c_8
      refine g_iconst (x := (nI 1)) O dX9_place_126 (by decide +kernel) ?_
      refine g_goto (tgt := 131) O dX9_place_127 (by decide) ?_
      exact E 131 _ (nI 1) _ dX9_place_131 (by rw [hla]; first | exact ⟨rfl, rfl⟩ | (rw [laF_n hw48, h123]; exact ⟨rfl, rfl⟩))

set_option maxHeartbeats 4000000 in
set_option maxRecDepth 100000 in
theorem kX9_place_3 (l : Launch) (D : va_G) (z : Nat × Nat × Nat) (u0 : Nat) (u1 : Nat) (u2 : Nat) (u3 : Nat) (u4 : Nat) (u5 : Nat) (u6 : Nat) (u7 : Nat) (u8 : Nat) (u9 : Nat) (u10 : Nat) (u11 : Nat) (kn : Nat) (ik : Bool) (ty : Nat) (ta : Nat) (iw : Bool) (M : Nat → Int32) (s : SV) (x : Nat) (y : Nat) (hx : x < 12) (hy : y < 12) (hM : RM M s) (hnc : sv_nc s ≤ 4) (hcc : ∀ j, j < sv_nc s → sv_cc s j < 12 ∧ sv_cr s j < 12) : CM l yX9_place wsX9_place ({ frames := 2, cells := 0, slots := 0, locals := 44 } : Room) D z [.ref u0, .int (nI x), .int (nI y), .int (nI 3)] [(u0, .inr (9, [.ref u1, .ref u2, .ref u3, .ref u4, .ref u5, .ref u6, .int (nI kn), .ref u7, .int (bB ik), .ref u8, .int (nI ty), .ref u9, .int (nI ta), .int (bB iw), .ref u10, .ref u11])), (u5, .inl ((TY D)[0].1, 208, .inl M))] (fun r_ w_ => r_ = some (.int (orN (fdB (fun j => decide (12 * sv_cr s j + sv_cc s j = 12 * y + x)) (sv_nc s)))) ∧ w_ = [(u0, .inr (9, [.ref u1, .ref u2, .ref u3, .ref u4, .ref u5, .ref u6, .int (nI kn), .ref u7, .int (bB ik), .ref u8, .int (nI ty), .ref u9, .int (nI ta), .int (bB iw), .ref u10, .ref u11])), (u5, .inl ((TY D)[0].1, 208, .inl M))]) 0 0 := by
  refine CM_int (own := RX9) (cc := cX9_place) (maxL := 5) (L0 := [(0, .ref u0), (1, .int (nI x)), (2, .int (nI y)), (3, .int (nI 3))]) (by decide) rfl rfl (Nat.le_of_ble_eq_true rfl) rfl (fun X O E => ?_)
  refine g_iload_n O dX9_place_0 1 rfl rfl ?_
  refine g_iload_n O dX9_place_1 2 rfl rfl ?_
  refine g_callS (As := [.int (nI x), .int (nI y)]) (wr := [(u0, .inr (9, [.ref u1, .ref u2, .ref u3, .ref u4, .ref u5, .ref u6, .int (nI kn), .ref u7, .int (bB ik), .ref u8, .int (nI ty), .ref u9, .int (nI ta), .int (bB iw), .ref u10, .ref u11])), (u5, .inl ((TY D)[0].1, 208, .inl M))]) O (kX9_isOn l D z (nI x) (nI y) ) gX9_place_X9_isOn rfl rfl rfl 2 (by decide +kernel) (by decide) (by decide) [] [0, 1] rfl (by decide) rfl (by decide) (by decide) rfl rfl (Nat.le_of_ble_eq_true rfl) dX9_place_2 (fun r_1 w_2 hp => ?_)
  obtain ⟨rfl, rfl⟩ := hp
  refine g_eq (st' := [.int (bB (rgB (nI x) 12 && rgB (nI y) 12))]) (ws' := [(u0, .inr (9, [.ref u1, .ref u2, .ref u3, .ref u4, .ref u5, .ref u6, .int (nI kn), .ref u7, .int (bB ik), .ref u8, .int (nI ty), .ref u9, .int (nI ta), .int (bB iw), .ref u10, .ref u11])), (u5, .inl ((TY D)[0].1, 208, .inl M))]) rfl rfl rfl ?_
  refine g_if_neB (tgt := 10) O dX9_place_5 (by decide) (fun c_3 => ?_) (fun c_3 => absurd c_3 (by rw [rgB_t hx (by decide), rgB_t hy (by decide)]; decide))
  refine g_bipush (x := (nI 12)) O dX9_place_10 (by decide +kernel) ?_
  refine g_iload_n O dX9_place_12 2 rfl rfl ?_
  refine g_imulN O dX9_place_13 ?_
  refine g_iload_n O dX9_place_14 1 rfl rfl ?_
  refine g_iaddN O dX9_place_15 ?_
  refine g_istore (L' := [(0, .ref u0), (1, .int (nI x)), (2, .int (nI y)), (3, .int (nI 3)), (4, .int (nI ((12 * y) + x)))]) O dX9_place_16 (by decide) [1, 2, 3, 4, 0] rfl ?_
  refine g_iload_n O dX9_place_18 3 rfl rfl ?_
  refine g_tableIn (off := 113) (tgt := 132) O dX9_place_19 (by decide +kernel) (by decide +kernel) (by decide +kernel) (by decide) ?_
  refine g_aload_n O dX9_place_132 0 rfl rfl ?_
  refine g_iload O dX9_place_133 4 rfl ?_
  refine g_callV (As := [.int (nI ((12 * y) + x))]) (wr := []) O (kX9_clampOn l D z u0 u1 u2 u3 u4 u5 u6 u7 u8 u9 u10 u11 kn ik ty ta iw M s ((12 * y) + x) (by first | assumption | omega) (by first | assumption | omega) (by first | assumption | omega) (by first | assumption | omega)) gX9_place_X9_clampOn rfl rfl rfl 1 (by decide +kernel) (by decide) (by decide) (q0 := 0) rfl rfl rfl [0, 1] [] rfl (by decide) rfl (by decide) (by decide) rfl rfl (Nat.le_of_ble_eq_true rfl) dX9_place_135 (fun r_4 w_5 hp => ?_)
  obtain ⟨rfl, rfl⟩ := hp
  refine g_eq (st' := [.int (orN (fdB (fun j => decide (12 * sv_cr s j + sv_cc s j = ((12 * y) + x))) (sv_nc s)))]) (ws' := [(u0, .inr (9, [.ref u1, .ref u2, .ref u3, .ref u4, .ref u5, .ref u6, .int (nI kn), .ref u7, .int (bB ik), .ref u8, .int (nI ty), .ref u9, .int (nI ta), .int (bB iw), .ref u10, .ref u11])), (u5, .inl ((TY D)[0].1, 208, .inl M))]) rfl rfl rfl ?_
  exact E 138 _ (orN (fdB (fun j => decide (12 * sv_cr s j + sv_cc s j = ((12 * y) + x))) (sv_nc s))) _ dX9_place_138 ⟨rfl, rfl⟩

theorem hiX9_meet_X9 : ∀ w ∈ wsX90, w ∈ wsX9_meet := by decide +kernel
set_option maxHeartbeats 4000000 in
set_option maxRecDepth 100000 in
/-- all that hang together are met -/
theorem kX9_meet (l : Launch) (D : va_G) (z : Nat × Nat × Nat) (u0 : Nat) (u1 : Nat) (u2 : Nat) (u3 : Nat) (u4 : Nat) (u5 : Nat) (u6 : Nat) (u7 : Nat) (u8 : Nat) (u9 : Nat) (u10 : Nat) (u11 : Nat) (kn : Nat) (ik : Bool) (ty : Nat) (ta : Nat) (iw : Bool) (t : VT) (p : Nat) (hp : p < 144) (ho : vO t p = true) : CM l yX9_meet wsX9_meet ({ frames := 2, cells := 0, slots := 0, locals := 43 } : Room) D z [.ref u0, .int (nI p)] [(u0, .inr (9, [.ref u1, .ref u2, .ref u3, .ref u4, .ref u5, .ref u6, .int (nI kn), .ref u7, .int (bB ik), .ref u8, .int (nI ty), .ref u9, .int (nI ta), .int (bB iw), .ref u10, .ref u11])), (u10, .inl ((TY D)[1].1, 144, .inl (bf (fun p => !vO t p)))), (u11, .inl ((TY D)[0].1, 144, .inl (nf (vR t))))] (fun r_ w_ => r_ = none ∧ w_ = [(u0, .inr (9, [.ref u1, .ref u2, .ref u3, .ref u4, .ref u5, .ref u6, .int (nI kn), .ref u7, .int (bB ik), .ref u8, .int (nI ty), .ref u9, .int (nI ta), .int (bB iw), .ref u10, .ref u11])), (u10, .inl ((TY D)[1].1, 144, .inl (bf (fun p => !vO (clF t p) p)))), (u11, .inl ((TY D)[0].1, 144, .inl (nf (vR (clF t p)))))]) 0 0 := by
  refine CM_void (own := RX9) (cc := cX9_meet) (maxL := 7) (L0 := [(0, .ref u0), (1, .int (nI p))]) (by decide) rfl rfl (Nat.le_of_ble_eq_true rfl) rfl (fun X O E => ?_)
  refine g_aload_n O dX9_meet_0 0 rfl rfl ?_
  refine g_get O hiX9_meet_X9 0 rfl rfl 14 (by decide) (by decide +kernel) rfl dX9_meet_1 ?_
  refine g_iload_n O dX9_meet_4 1 rfl rfl ?_
  refine g_iconst (x := (nI 1)) O dX9_meet_5 (by decide +kernel) ?_
  refine g_zastN (f' := (bf (upf (fun p => !vO t p) p true))) (ws' := [(u0, .inr (9, [.ref u1, .ref u2, .ref u3, .ref u4, .ref u5, .ref u6, .int (nI kn), .ref u7, .int (bB ik), .ref u8, .int (nI ty), .ref u9, .int (nI ta), .int (bB iw), .ref u10, .ref u11])), (u10, .inl ((TY D)[1].1, 144, .inl (bf (upf (fun p => !vO t p) p true)))), (u11, .inl ((TY D)[0].1, 144, .inl (nf (vR t))))]) O 1 rfl (by omega) (by omega) dX9_meet_6 (bf_updT _ _) rfl ?_
  refine g_aload_n O dX9_meet_7 0 rfl rfl ?_
  refine g_get O hiX9_meet_X9 0 rfl rfl 15 (by decide) (by decide +kernel) rfl dX9_meet_8 ?_
  refine g_iconst (x := (nI 0)) O dX9_meet_11 (by decide +kernel) ?_
  refine g_iload_n O dX9_meet_12 1 rfl rfl ?_
  refine g_iastN (f' := (nf (upf (vR t) 0 p))) (ws' := [(u0, .inr (9, [.ref u1, .ref u2, .ref u3, .ref u4, .ref u5, .ref u6, .int (nI kn), .ref u7, .int (bB ik), .ref u8, .int (nI ty), .ref u9, .int (nI ta), .int (bB iw), .ref u10, .ref u11])), (u10, .inl ((TY D)[1].1, 144, .inl (bf (upf (fun p => !vO t p) p true)))), (u11, .inl ((TY D)[0].1, 144, .inl (nf (upf (vR t) 0 p))))]) O 2 rfl (by omega) (by omega) dX9_meet_13 (nf_upd _ _ _) rfl ?_
  refine g_eq (ws' := [(u0, .inr (9, [.ref u1, .ref u2, .ref u3, .ref u4, .ref u5, .ref u6, .int (nI kn), .ref u7, .int (bB ik), .ref u8, .int (nI ty), .ref u9, .int (nI ta), .int (bB iw), .ref u10, .ref u11])), (u10, .inl ((TY D)[1].1, 144, .inl (bf (fun p => !vO (mkV (upf (vO t) p false) (upf (vR t) 0 p) 1) p)))), (u11, .inl ((TY D)[0].1, 144, .inl (nf (vR (mkV (upf (vO t) p false) (upf (vR t) 0 p) 1)))))]) rfl rfl (by rw [nv_upf]; rfl) ?_
  have hc0 := clF_0 hp ho
  have hcap0 : capV (mkV (upf (vO t) p false) (upf (vR t) 0 p) 1) := by have h1 := cntB_upf hp ho; have h2 := cntB_le (vO t) 144; show 1 + cntB (upf (vO t) p false) 144 ≤ 144; omega
  refine g_iconst (x := (nI 1)) O dX9_meet_14 (by decide +kernel) ?_
  refine g_istore_n (L' := [(0, .ref u0), (1, .int (nI p)), (2, .int (nI 1))]) O dX9_meet_15 rfl (by decide) [1, 2, 0] rfl ?_
  refine g_iconst (x := (nI 0)) O dX9_meet_16 (by decide +kernel) ?_
  refine g_istore_n (L' := [(0, .ref u0), (1, .int (nI p)), (2, .int (nI 1)), (3, .int (nI 0))]) O dX9_meet_17 rfl (by decide) [1, 2, 3, 0] rfl ?_
  have J18 : ∀ (n_ : Nat), ∀ (k_ : Nat) (t_ : VT) (hk : k_ ≤ 144) (hb : bfs (145 - k_) t_ k_ = clF t p) (hr_ : rOk t_) (hcap : capV t_), 145 - k_ < n_ → G X 0 0 18 [(0, .ref u0), (1, .int (nI p)), (2, .int (nI (vC t_))), (3, .int (nI k_))] [] [(u0, .inr (9, [.ref u1, .ref u2, .ref u3, .ref u4, .ref u5, .ref u6, .int (nI kn), .ref u7, .int (bB ik), .ref u8, .int (nI ty), .ref u9, .int (nI ta), .int (bB iw), .ref u10, .ref u11])), (u10, .inl ((TY D)[1].1, 144, .inl (bf (fun p => !vO t_ p)))), (u11, .inl ((TY D)[0].1, 144, .inl (nf (vR t_))))] := by
    intro n_
    induction n_ with
    | zero => intro k_ t_ hk hb hr_ hcap hm_; exact absurd hm_ (Nat.not_lt_zero _)
    | succ n_ ih_ =>
      intro k_ t_ hk hb hr_ hcap hm_
      have hvc : vC t_ ≤ 144 := by have := hcap; simp only [capV] at this; omega
      refine g_iload_n O dX9_meet_18 3 rfl rfl ?_
      refine g_iload_n O dX9_meet_19 2 rfl rfl ?_
      refine g_icmp_geN (tgt := 166) O (by omega) (by omega) dX9_meet_20 (by decide) (fun c_1 => ?_) (fun c_1 => ?_)
      ·
        have he := bfs_e (t := t_) hk (by omega)
        exact E 166 _ _ dX9_meet_166 (by rw [← hb, he]; exact ⟨rfl, rfl⟩)
      ·
        have hq144 := hr_ k_ (by omega)
        refine g_iconst (x := (nI 0)) O dX9_meet_23 (by decide +kernel) ?_
        refine g_istore (L' := [(0, .ref u0), (1, .int (nI p)), (2, .int (nI (vC t_))), (3, .int (nI k_)), (4, .int (nI 0))]) O dX9_meet_24 (by decide) [1, 2, 3, 4, 0] rfl ?_
        have J26 : ∀ (n_ : Nat), ∀ (j_ : Nat) (u_ : VT) (hj : j_ ≤ 4) (hu : u_ = vsN t_ (vR t_ k_) j_) (hur : vR u_ k_ = (vR t_ k_)) (hucap : capV u_) (hul : k_ < vC u_), 4 - j_ < n_ → G X 0 0 26 [(0, .ref u0), (1, .int (nI p)), (2, .int (nI (vC u_))), (3, .int (nI k_)), (4, .int (nI j_))] [] [(u0, .inr (9, [.ref u1, .ref u2, .ref u3, .ref u4, .ref u5, .ref u6, .int (nI kn), .ref u7, .int (bB ik), .ref u8, .int (nI ty), .ref u9, .int (nI ta), .int (bB iw), .ref u10, .ref u11])), (u10, .inl ((TY D)[1].1, 144, .inl (bf (fun p => !vO u_ p)))), (u11, .inl ((TY D)[0].1, 144, .inl (nf (vR u_))))] := by
          intro n_
          induction n_ with
          | zero => intro j_ u_ hj hu hur hucap hul hm_; exact absurd hm_ (Nat.not_lt_zero _)
          | succ n_ ih26 =>
            intro j_ u_ hj hu hur hucap hul hm_
            have huc : vC u_ ≤ 144 := by have := hucap; simp only [capV] at this; omega
            rcases (show j_ = 0 ∨ j_ = 1 ∨ j_ = 2 ∨ j_ = 3 ∨ j_ = 4 by omega) with rfl | rfl | rfl | rfl | rfl
            ·
              refine g_iload O dX9_meet_26 4 rfl ?_
              refine g_iconst (x := (nI 4)) O dX9_meet_28 (by decide +kernel) ?_
              refine g_icmp_geN (tgt := 160) O (by omega) (by omega) dX9_meet_29 (by decide) (fun c_2 => absurd c_2 (by decide)) (fun c_2 => ?_)
              refine g_aload_n O dX9_meet_32 0 rfl rfl ?_
              refine g_get O hiX9_meet_X9 0 rfl rfl 15 (by decide) (by decide +kernel) rfl dX9_meet_33 ?_
              refine g_iload_n O dX9_meet_36 3 rfl rfl ?_
              refine g_ialdN O 2 rfl (by omega) (by omega) dX9_meet_37 ?_
              refine g_eq (st' := [.int (nI (vR t_ k_))]) (by rw [hur]) rfl rfl ?_
              refine g_bipush (x := (nI 12)) O dX9_meet_38 (by decide +kernel) ?_
              refine g_iremN O (by omega) (by omega) (by omega) dX9_meet_40 ?_
              refine g_iload O dX9_meet_41 4 rfl ?_
              refine g_iconst (x := (nI 1)) O dX9_meet_43 (by decide +kernel) ?_
              refine g_icmp_neN (tgt := 51) O (by omega) (by omega) dX9_meet_44 (by decide) (fun c_3 => ?_) (fun c_3 => absurd c_3 (by decide))
              refine g_iload O dX9_meet_51 4 rfl ?_
              refine g_iconst (x := (nI 2)) O dX9_meet_53 (by decide +kernel) ?_
              refine g_icmp_neN (tgt := 61) O (by omega) (by omega) dX9_meet_54 (by decide) (fun c_4 => ?_) (fun c_4 => absurd c_4 (by decide))
              refine g_iconst (x := (nI 0)) O dX9_meet_61 (by decide +kernel) ?_
              refine g_iaddN O dX9_meet_62 ?_
              refine g_istore (L' := [(0, .ref u0), (1, .int (nI p)), (2, .int (nI (vC u_))), (3, .int (nI k_)), (4, .int (nI 0)), (5, .int (nI (((vR t_ k_) % 12) + 0)))]) O dX9_meet_63 (by decide) [1, 2, 3, 4, 5, 0] rfl ?_
              obtain ⟨X5, hX5⟩ : ∃ x, x = (nI (((vR t_ k_) % 12) + 0)) := ⟨_, rfl⟩
              refine g_eq (L' := [(0, .ref u0), (1, .int (nI p)), (2, .int (nI (vC u_))), (3, .int (nI k_)), (4, .int (nI 0)), (5, .int X5)]) rfl (by rw [hX5]) rfl ?_
              refine g_aload_n O dX9_meet_65 0 rfl rfl ?_
              refine g_get O hiX9_meet_X9 0 rfl rfl 15 (by decide) (by decide +kernel) rfl dX9_meet_66 ?_
              refine g_iload_n O dX9_meet_69 3 rfl rfl ?_
              refine g_ialdN O 2 rfl (by omega) (by omega) dX9_meet_70 ?_
              refine g_eq (st' := [.int (nI (vR t_ k_))]) (by rw [hur]) rfl rfl ?_
              refine g_bipush (x := (nI 12)) O dX9_meet_71 (by decide +kernel) ?_
              refine g_idivN O (by omega) (by omega) (by omega) dX9_meet_73 ?_
              refine g_iload O dX9_meet_74 4 rfl ?_
              refine g_if_neN (tgt := 83) O (by omega) dX9_meet_76 (by decide) (fun c_5 => absurd c_5 (by decide)) (fun c_5 => ?_)
              refine g_iconst (x := (-1)) O dX9_meet_79 (by decide +kernel) ?_
              refine g_goto (tgt := 94) O dX9_meet_80 (by decide) ?_
              refine g_iadd O dX9_meet_94 ?_
              refine g_istore (L' := [(0, .ref u0), (1, .int (nI p)), (2, .int (nI (vC u_))), (3, .int (nI k_)), (4, .int (nI 0)), (5, .int X5), (6, .int ((nI ((vR t_ k_) / 12)) + (-1)))]) O dX9_meet_95 (by decide) [1, 2, 3, 4, 5, 6, 0] rfl ?_
              obtain ⟨Y6, hY6⟩ : ∃ x, x = ((nI ((vR t_ k_) / 12)) + (-1)) := ⟨_, rfl⟩
              refine g_eq (L' := [(0, .ref u0), (1, .int (nI p)), (2, .int (nI (vC u_))), (3, .int (nI k_)), (4, .int (nI 0)), (5, .int X5), (6, .int Y6)]) rfl (by rw [hY6]) rfl ?_
              refine g_iload O dX9_meet_97 5 rfl ?_
              refine g_iload O dX9_meet_99 6 rfl ?_
              refine g_callS (As := [.int X5, .int Y6]) (wr := [(u0, .inr (9, [.ref u1, .ref u2, .ref u3, .ref u4, .ref u5, .ref u6, .int (nI kn), .ref u7, .int (bB ik), .ref u8, .int (nI ty), .ref u9, .int (nI ta), .int (bB iw), .ref u10, .ref u11])), (u10, .inl ((TY D)[1].1, 144, .inl (bf (fun p => !vO u_ p)))), (u11, .inl ((TY D)[0].1, 144, .inl (nf (vR u_))))]) O (kX9_isOn l D z X5 Y6 ) gX9_meet_X9_isOn rfl rfl rfl 2 (by decide +kernel) (by decide) (by decide) [] [0, 1, 2] rfl (by decide) rfl (by decide) (by decide) rfl rfl (Nat.le_of_ble_eq_true rfl) dX9_meet_101 (fun r_6 w_7 hp => ?_)
              obtain ⟨rfl, rfl⟩ := hp
              refine g_eq (st' := [.int (bB (rgB X5 12 && rgB Y6 12))]) (ws' := [(u0, .inr (9, [.ref u1, .ref u2, .ref u3, .ref u4, .ref u5, .ref u6, .int (nI kn), .ref u7, .int (bB ik), .ref u8, .int (nI ty), .ref u9, .int (nI ta), .int (bB iw), .ref u10, .ref u11])), (u10, .inl ((TY D)[1].1, 144, .inl (bf (fun p => !vO u_ p)))), (u11, .inl ((TY D)[0].1, 144, .inl (nf (vR u_))))]) rfl rfl rfl ?_
              refine g_if_eqB (tgt := 154) O dX9_meet_104 (by decide) (fun c_8 => ?_) (fun c_8 => ?_)
              ·
                have hnb : nbP (vR t_ k_) 0 = rchP X5 Y6 := by rw [hX5, hY6]; simp only [nbP, m1_e, nI_add, Nat.add_zero]
                have hq : visit (nbP (vR t_ k_) 0) u_ = u_ := by rw [hnb, rchP_n c_8]; rfl
                refine g_eq (L' := [(0, .ref u0), (1, .int (nI p)), (2, .int (nI (vC (visit (nbP (vR t_ k_) 0) u_)))), (3, .int (nI k_)), (4, .int (nI 0)), (5, .int X5), (6, .int Y6)]) (ws' := [(u0, .inr (9, [.ref u1, .ref u2, .ref u3, .ref u4, .ref u5, .ref u6, .int (nI kn), .ref u7, .int (bB ik), .ref u8, .int (nI ty), .ref u9, .int (nI ta), .int (bB iw), .ref u10, .ref u11])), (u10, .inl ((TY D)[1].1, 144, .inl (bf (fun p => !vO (visit (nbP (vR t_ k_) 0) u_) p)))), (u11, .inl ((TY D)[0].1, 144, .inl (nf (vR (visit (nbP (vR t_ k_) 0) u_)))))]) rfl (by rw [hq] <;> rfl) (by rw [hq] <;> first | rfl | (rw [nv_upf]; rfl)) ?_
                refine g_iincN (L' := [(0, .ref u0), (1, .int (nI p)), (2, .int (nI (vC (visit (nbP (vR t_ k_) 0) u_)))), (3, .int (nI k_)), (4, .int (nI (0 + 1))), (5, .int X5), (6, .int Y6)]) O dX9_meet_154 4 rfl (by decide) [1, 2, 3, 4, 0, 5, 6] rfl ?_
                refine g_goto (tgt := 26) O dX9_meet_157 (by decide) ?_
                refine g_locals (L' := [(0, .ref u0), (1, .int (nI p)), (2, .int (nI (vC (visit (nbP (vR t_ k_) 0) u_)))), (3, .int (nI k_)), (4, .int (nI (0 + 1)))]) [0, 1, 2, 3, 4] rfl ?_
                exact ih26 1 (visit (nbP (vR t_ k_) 0) u_) (by omega) (by rw [hu]; rfl) (by rw [visit_r hul]; exact hur) (cap_visit (fun _ h => nbP_lt h) hucap) (Nat.lt_of_lt_of_le hul visit_cle) (by omega)
              ·
                have hnb : nbP (vR t_ k_) 0 = rchP X5 Y6 := by rw [hX5, hY6]; simp only [nbP, m1_e, nI_add, Nat.add_zero]
                rw [Bool.and_eq_true] at c_8
                obtain ⟨⟨a_, ha, hXa⟩, ⟨d_, hd, hYd⟩⟩ := And.intro ((rgB_iff (by decide)).mp c_8.1) ((rgB_iff (by decide)).mp c_8.2)
                have hr : nbP (vR t_ k_) 0 = some (12 * d_ + a_) := by rw [hnb, hXa, hYd, rchP_s ha hd, show d_ * 12 + a_ = 12 * d_ + a_ by omega]
                refine g_eq (L' := [(0, .ref u0), (1, .int (nI p)), (2, .int (nI (vC u_))), (3, .int (nI k_)), (4, .int (nI 0)), (5, .int (nI a_)), (6, .int (nI d_))]) rfl (by rw [hXa, hYd]) rfl ?_
                refine g_aload_n O dX9_meet_107 0 rfl rfl ?_
                refine g_get O hiX9_meet_X9 0 rfl rfl 14 (by decide) (by decide +kernel) rfl dX9_meet_108 ?_
                refine g_bipush (x := (nI 12)) O dX9_meet_111 (by decide +kernel) ?_
                refine g_iload O dX9_meet_113 6 rfl ?_
                refine g_imulN O dX9_meet_115 ?_
                refine g_iload O dX9_meet_116 5 rfl ?_
                refine g_iaddN O dX9_meet_118 ?_
                refine g_zaldN O 1 rfl (by omega) (by omega) dX9_meet_119 ?_
                refine g_if_neB (tgt := 154) O dX9_meet_120 (by decide) (fun c_9 => ?_) (fun c_9 => ?_)
                ·
                  have hq : visit (nbP (vR t_ k_) 0) u_ = u_ := by rw [hr]; exact visit_f (by simpa using c_9)
                  refine g_eq (L' := [(0, .ref u0), (1, .int (nI p)), (2, .int (nI (vC (visit (nbP (vR t_ k_) 0) u_)))), (3, .int (nI k_)), (4, .int (nI 0)), (5, .int (nI a_)), (6, .int (nI d_))]) (ws' := [(u0, .inr (9, [.ref u1, .ref u2, .ref u3, .ref u4, .ref u5, .ref u6, .int (nI kn), .ref u7, .int (bB ik), .ref u8, .int (nI ty), .ref u9, .int (nI ta), .int (bB iw), .ref u10, .ref u11])), (u10, .inl ((TY D)[1].1, 144, .inl (bf (fun p => !vO (visit (nbP (vR t_ k_) 0) u_) p)))), (u11, .inl ((TY D)[0].1, 144, .inl (nf (vR (visit (nbP (vR t_ k_) 0) u_)))))]) rfl (by rw [hq] <;> rfl) (by rw [hq] <;> first | rfl | (rw [nv_upf]; rfl)) ?_
                  refine g_iincN (L' := [(0, .ref u0), (1, .int (nI p)), (2, .int (nI (vC (visit (nbP (vR t_ k_) 0) u_)))), (3, .int (nI k_)), (4, .int (nI (0 + 1))), (5, .int (nI a_)), (6, .int (nI d_))]) O dX9_meet_154 4 rfl (by decide) [1, 2, 3, 4, 0, 5, 6] rfl ?_
                  refine g_goto (tgt := 26) O dX9_meet_157 (by decide) ?_
                  refine g_locals (L' := [(0, .ref u0), (1, .int (nI p)), (2, .int (nI (vC (visit (nbP (vR t_ k_) 0) u_)))), (3, .int (nI k_)), (4, .int (nI (0 + 1)))]) [0, 1, 2, 3, 4] rfl ?_
                  exact ih26 1 (visit (nbP (vR t_ k_) 0) u_) (by omega) (by rw [hu]; rfl) (by rw [visit_r hul]; exact hur) (cap_visit (fun _ h => nbP_lt h) hucap) (Nat.lt_of_lt_of_le hul visit_cle) (by omega)
                ·
                  have hop : vO u_ (12 * d_ + a_) = true := by simpa using c_9
                  have hlt := cap_lt hucap (by omega) hop
                  have hq : visit (nbP (vR t_ k_) 0) u_ = mkV (upf (vO u_) (12 * d_ + a_) false) (upf (vR u_) (vC u_) (12 * d_ + a_)) (vC u_ + 1) := by rw [hr]; exact visit_t hop hlt
                  refine g_aload_n O dX9_meet_123 0 rfl rfl ?_
                  refine g_get O hiX9_meet_X9 0 rfl rfl 14 (by decide) (by decide +kernel) rfl dX9_meet_124 ?_
                  refine g_bipush (x := (nI 12)) O dX9_meet_127 (by decide +kernel) ?_
                  refine g_iload O dX9_meet_129 6 rfl ?_
                  refine g_imulN O dX9_meet_131 ?_
                  refine g_iload O dX9_meet_132 5 rfl ?_
                  refine g_iaddN O dX9_meet_134 ?_
                  refine g_iconst (x := (nI 1)) O dX9_meet_135 (by decide +kernel) ?_
                  refine g_zastN (f' := (bf (upf (fun p => !vO u_ p) ((12 * d_) + a_) true))) (ws' := [(u0, .inr (9, [.ref u1, .ref u2, .ref u3, .ref u4, .ref u5, .ref u6, .int (nI kn), .ref u7, .int (bB ik), .ref u8, .int (nI ty), .ref u9, .int (nI ta), .int (bB iw), .ref u10, .ref u11])), (u10, .inl ((TY D)[1].1, 144, .inl (bf (upf (fun p => !vO u_ p) ((12 * d_) + a_) true)))), (u11, .inl ((TY D)[0].1, 144, .inl (nf (vR u_))))]) O 1 rfl (by omega) (by omega) dX9_meet_136 (bf_updT _ _) rfl ?_
                  refine g_aload_n O dX9_meet_137 0 rfl rfl ?_
                  refine g_get O hiX9_meet_X9 0 rfl rfl 15 (by decide) (by decide +kernel) rfl dX9_meet_138 ?_
                  refine g_iload_n O dX9_meet_141 2 rfl rfl ?_
                  refine g_bipush (x := (nI 12)) O dX9_meet_142 (by decide +kernel) ?_
                  refine g_iload O dX9_meet_144 6 rfl ?_
                  refine g_imulN O dX9_meet_146 ?_
                  refine g_iload O dX9_meet_147 5 rfl ?_
                  refine g_iaddN O dX9_meet_149 ?_
                  refine g_iastN (f' := (nf (upf (vR u_) (vC u_) ((12 * d_) + a_)))) (ws' := [(u0, .inr (9, [.ref u1, .ref u2, .ref u3, .ref u4, .ref u5, .ref u6, .int (nI kn), .ref u7, .int (bB ik), .ref u8, .int (nI ty), .ref u9, .int (nI ta), .int (bB iw), .ref u10, .ref u11])), (u10, .inl ((TY D)[1].1, 144, .inl (bf (upf (fun p => !vO u_ p) ((12 * d_) + a_) true)))), (u11, .inl ((TY D)[0].1, 144, .inl (nf (upf (vR u_) (vC u_) ((12 * d_) + a_)))))]) O 2 rfl (by omega) (by omega) dX9_meet_150 (nf_upd _ _ _) rfl ?_
                  refine g_iincN (L' := [(0, .ref u0), (1, .int (nI p)), (2, .int (nI ((vC u_) + 1))), (3, .int (nI k_)), (4, .int (nI 0)), (5, .int (nI a_)), (6, .int (nI d_))]) O dX9_meet_151 2 rfl (by decide) [1, 2, 0, 3, 4, 5, 6] rfl ?_
                  refine g_eq (L' := [(0, .ref u0), (1, .int (nI p)), (2, .int (nI (vC (visit (nbP (vR t_ k_) 0) u_)))), (3, .int (nI k_)), (4, .int (nI 0)), (5, .int (nI a_)), (6, .int (nI d_))]) (ws' := [(u0, .inr (9, [.ref u1, .ref u2, .ref u3, .ref u4, .ref u5, .ref u6, .int (nI kn), .ref u7, .int (bB ik), .ref u8, .int (nI ty), .ref u9, .int (nI ta), .int (bB iw), .ref u10, .ref u11])), (u10, .inl ((TY D)[1].1, 144, .inl (bf (fun p => !vO (visit (nbP (vR t_ k_) 0) u_) p)))), (u11, .inl ((TY D)[0].1, 144, .inl (nf (vR (visit (nbP (vR t_ k_) 0) u_)))))]) rfl (by rw [hq] <;> rfl) (by rw [hq] <;> first | rfl | (rw [nv_upf]; rfl)) ?_
                  refine g_iincN (L' := [(0, .ref u0), (1, .int (nI p)), (2, .int (nI (vC (visit (nbP (vR t_ k_) 0) u_)))), (3, .int (nI k_)), (4, .int (nI (0 + 1))), (5, .int (nI a_)), (6, .int (nI d_))]) O dX9_meet_154 4 rfl (by decide) [1, 2, 3, 4, 0, 5, 6] rfl ?_
                  refine g_goto (tgt := 26) O dX9_meet_157 (by decide) ?_
                  refine g_locals (L' := [(0, .ref u0), (1, .int (nI p)), (2, .int (nI (vC (visit (nbP (vR t_ k_) 0) u_)))), (3, .int (nI k_)), (4, .int (nI (0 + 1)))]) [0, 1, 2, 3, 4] rfl ?_
                  exact ih26 1 (visit (nbP (vR t_ k_) 0) u_) (by omega) (by rw [hu]; rfl) (by rw [visit_r hul]; exact hur) (cap_visit (fun _ h => nbP_lt h) hucap) (Nat.lt_of_lt_of_le hul visit_cle) (by omega)
            ·
              refine g_iload O dX9_meet_26 4 rfl ?_
              refine g_iconst (x := (nI 4)) O dX9_meet_28 (by decide +kernel) ?_
              refine g_icmp_geN (tgt := 160) O (by omega) (by omega) dX9_meet_29 (by decide) (fun c_10 => absurd c_10 (by decide)) (fun c_10 => ?_)
              refine g_aload_n O dX9_meet_32 0 rfl rfl ?_
              refine g_get O hiX9_meet_X9 0 rfl rfl 15 (by decide) (by decide +kernel) rfl dX9_meet_33 ?_
              refine g_iload_n O dX9_meet_36 3 rfl rfl ?_
              refine g_ialdN O 2 rfl (by omega) (by omega) dX9_meet_37 ?_
              refine g_eq (st' := [.int (nI (vR t_ k_))]) (by rw [hur]) rfl rfl ?_
              refine g_bipush (x := (nI 12)) O dX9_meet_38 (by decide +kernel) ?_
              refine g_iremN O (by omega) (by omega) (by omega) dX9_meet_40 ?_
              refine g_iload O dX9_meet_41 4 rfl ?_
              refine g_iconst (x := (nI 1)) O dX9_meet_43 (by decide +kernel) ?_
              refine g_icmp_neN (tgt := 51) O (by omega) (by omega) dX9_meet_44 (by decide) (fun c_11 => absurd c_11 (by decide)) (fun c_11 => ?_)
              refine g_iconst (x := (-1)) O dX9_meet_47 (by decide +kernel) ?_
              refine g_goto (tgt := 62) O dX9_meet_48 (by decide) ?_
              refine g_iadd O dX9_meet_62 ?_
              refine g_istore (L' := [(0, .ref u0), (1, .int (nI p)), (2, .int (nI (vC u_))), (3, .int (nI k_)), (4, .int (nI 1)), (5, .int ((nI ((vR t_ k_) % 12)) + (-1)))]) O dX9_meet_63 (by decide) [1, 2, 3, 4, 5, 0] rfl ?_
              obtain ⟨X5, hX5⟩ : ∃ x, x = ((nI ((vR t_ k_) % 12)) + (-1)) := ⟨_, rfl⟩
              refine g_eq (L' := [(0, .ref u0), (1, .int (nI p)), (2, .int (nI (vC u_))), (3, .int (nI k_)), (4, .int (nI 1)), (5, .int X5)]) rfl (by rw [hX5]) rfl ?_
              refine g_aload_n O dX9_meet_65 0 rfl rfl ?_
              refine g_get O hiX9_meet_X9 0 rfl rfl 15 (by decide) (by decide +kernel) rfl dX9_meet_66 ?_
              refine g_iload_n O dX9_meet_69 3 rfl rfl ?_
              refine g_ialdN O 2 rfl (by omega) (by omega) dX9_meet_70 ?_
              refine g_eq (st' := [.int (nI (vR t_ k_))]) (by rw [hur]) rfl rfl ?_
              refine g_bipush (x := (nI 12)) O dX9_meet_71 (by decide +kernel) ?_
              refine g_idivN O (by omega) (by omega) (by omega) dX9_meet_73 ?_
              refine g_iload O dX9_meet_74 4 rfl ?_
              refine g_if_neN (tgt := 83) O (by omega) dX9_meet_76 (by decide) (fun c_12 => ?_) (fun c_12 => absurd c_12 (by decide))
              refine g_iload O dX9_meet_83 4 rfl ?_
              refine g_iconst (x := (nI 3)) O dX9_meet_85 (by decide +kernel) ?_
              refine g_icmp_neN (tgt := 93) O (by omega) (by omega) dX9_meet_86 (by decide) (fun c_13 => ?_) (fun c_13 => absurd c_13 (by decide))
              refine g_iconst (x := (nI 0)) O dX9_meet_93 (by decide +kernel) ?_
              refine g_iaddN O dX9_meet_94 ?_
              refine g_istore (L' := [(0, .ref u0), (1, .int (nI p)), (2, .int (nI (vC u_))), (3, .int (nI k_)), (4, .int (nI 1)), (5, .int X5), (6, .int (nI (((vR t_ k_) / 12) + 0)))]) O dX9_meet_95 (by decide) [1, 2, 3, 4, 5, 6, 0] rfl ?_
              obtain ⟨Y6, hY6⟩ : ∃ x, x = (nI (((vR t_ k_) / 12) + 0)) := ⟨_, rfl⟩
              refine g_eq (L' := [(0, .ref u0), (1, .int (nI p)), (2, .int (nI (vC u_))), (3, .int (nI k_)), (4, .int (nI 1)), (5, .int X5), (6, .int Y6)]) rfl (by rw [hY6]) rfl ?_
              refine g_iload O dX9_meet_97 5 rfl ?_
              refine g_iload O dX9_meet_99 6 rfl ?_
              refine g_callS (As := [.int X5, .int Y6]) (wr := [(u0, .inr (9, [.ref u1, .ref u2, .ref u3, .ref u4, .ref u5, .ref u6, .int (nI kn), .ref u7, .int (bB ik), .ref u8, .int (nI ty), .ref u9, .int (nI ta), .int (bB iw), .ref u10, .ref u11])), (u10, .inl ((TY D)[1].1, 144, .inl (bf (fun p => !vO u_ p)))), (u11, .inl ((TY D)[0].1, 144, .inl (nf (vR u_))))]) O (kX9_isOn l D z X5 Y6 ) gX9_meet_X9_isOn rfl rfl rfl 2 (by decide +kernel) (by decide) (by decide) [] [0, 1, 2] rfl (by decide) rfl (by decide) (by decide) rfl rfl (Nat.le_of_ble_eq_true rfl) dX9_meet_101 (fun r_14 w_15 hp => ?_)
              obtain ⟨rfl, rfl⟩ := hp
              refine g_eq (st' := [.int (bB (rgB X5 12 && rgB Y6 12))]) (ws' := [(u0, .inr (9, [.ref u1, .ref u2, .ref u3, .ref u4, .ref u5, .ref u6, .int (nI kn), .ref u7, .int (bB ik), .ref u8, .int (nI ty), .ref u9, .int (nI ta), .int (bB iw), .ref u10, .ref u11])), (u10, .inl ((TY D)[1].1, 144, .inl (bf (fun p => !vO u_ p)))), (u11, .inl ((TY D)[0].1, 144, .inl (nf (vR u_))))]) rfl rfl rfl ?_
              refine g_if_eqB (tgt := 154) O dX9_meet_104 (by decide) (fun c_16 => ?_) (fun c_16 => ?_)
              ·
                have hnb : nbP (vR t_ k_) 1 = rchP X5 Y6 := by rw [hX5, hY6]; simp only [nbP, m1_e, nI_add, Nat.add_zero]
                have hq : visit (nbP (vR t_ k_) 1) u_ = u_ := by rw [hnb, rchP_n c_16]; rfl
                refine g_eq (L' := [(0, .ref u0), (1, .int (nI p)), (2, .int (nI (vC (visit (nbP (vR t_ k_) 1) u_)))), (3, .int (nI k_)), (4, .int (nI 1)), (5, .int X5), (6, .int Y6)]) (ws' := [(u0, .inr (9, [.ref u1, .ref u2, .ref u3, .ref u4, .ref u5, .ref u6, .int (nI kn), .ref u7, .int (bB ik), .ref u8, .int (nI ty), .ref u9, .int (nI ta), .int (bB iw), .ref u10, .ref u11])), (u10, .inl ((TY D)[1].1, 144, .inl (bf (fun p => !vO (visit (nbP (vR t_ k_) 1) u_) p)))), (u11, .inl ((TY D)[0].1, 144, .inl (nf (vR (visit (nbP (vR t_ k_) 1) u_)))))]) rfl (by rw [hq] <;> rfl) (by rw [hq] <;> first | rfl | (rw [nv_upf]; rfl)) ?_
                refine g_iincN (L' := [(0, .ref u0), (1, .int (nI p)), (2, .int (nI (vC (visit (nbP (vR t_ k_) 1) u_)))), (3, .int (nI k_)), (4, .int (nI (1 + 1))), (5, .int X5), (6, .int Y6)]) O dX9_meet_154 4 rfl (by decide) [1, 2, 3, 4, 0, 5, 6] rfl ?_
                refine g_goto (tgt := 26) O dX9_meet_157 (by decide) ?_
                refine g_locals (L' := [(0, .ref u0), (1, .int (nI p)), (2, .int (nI (vC (visit (nbP (vR t_ k_) 1) u_)))), (3, .int (nI k_)), (4, .int (nI (1 + 1)))]) [0, 1, 2, 3, 4] rfl ?_
                exact ih26 2 (visit (nbP (vR t_ k_) 1) u_) (by omega) (by rw [hu]; rfl) (by rw [visit_r hul]; exact hur) (cap_visit (fun _ h => nbP_lt h) hucap) (Nat.lt_of_lt_of_le hul visit_cle) (by omega)
              ·
                have hnb : nbP (vR t_ k_) 1 = rchP X5 Y6 := by rw [hX5, hY6]; simp only [nbP, m1_e, nI_add, Nat.add_zero]
                rw [Bool.and_eq_true] at c_16
                obtain ⟨⟨a_, ha, hXa⟩, ⟨d_, hd, hYd⟩⟩ := And.intro ((rgB_iff (by decide)).mp c_16.1) ((rgB_iff (by decide)).mp c_16.2)
                have hr : nbP (vR t_ k_) 1 = some (12 * d_ + a_) := by rw [hnb, hXa, hYd, rchP_s ha hd, show d_ * 12 + a_ = 12 * d_ + a_ by omega]
                refine g_eq (L' := [(0, .ref u0), (1, .int (nI p)), (2, .int (nI (vC u_))), (3, .int (nI k_)), (4, .int (nI 1)), (5, .int (nI a_)), (6, .int (nI d_))]) rfl (by rw [hXa, hYd]) rfl ?_
                refine g_aload_n O dX9_meet_107 0 rfl rfl ?_
                refine g_get O hiX9_meet_X9 0 rfl rfl 14 (by decide) (by decide +kernel) rfl dX9_meet_108 ?_
                refine g_bipush (x := (nI 12)) O dX9_meet_111 (by decide +kernel) ?_
                refine g_iload O dX9_meet_113 6 rfl ?_
                refine g_imulN O dX9_meet_115 ?_
                refine g_iload O dX9_meet_116 5 rfl ?_
                refine g_iaddN O dX9_meet_118 ?_
                refine g_zaldN O 1 rfl (by omega) (by omega) dX9_meet_119 ?_
                refine g_if_neB (tgt := 154) O dX9_meet_120 (by decide) (fun c_17 => ?_) (fun c_17 => ?_)
                ·
                  have hq : visit (nbP (vR t_ k_) 1) u_ = u_ := by rw [hr]; exact visit_f (by simpa using c_17)
                  refine g_eq (L' := [(0, .ref u0), (1, .int (nI p)), (2, .int (nI (vC (visit (nbP (vR t_ k_) 1) u_)))), (3, .int (nI k_)), (4, .int (nI 1)), (5, .int (nI a_)), (6, .int (nI d_))]) (ws' := [(u0, .inr (9, [.ref u1, .ref u2, .ref u3, .ref u4, .ref u5, .ref u6, .int (nI kn), .ref u7, .int (bB ik), .ref u8, .int (nI ty), .ref u9, .int (nI ta), .int (bB iw), .ref u10, .ref u11])), (u10, .inl ((TY D)[1].1, 144, .inl (bf (fun p => !vO (visit (nbP (vR t_ k_) 1) u_) p)))), (u11, .inl ((TY D)[0].1, 144, .inl (nf (vR (visit (nbP (vR t_ k_) 1) u_)))))]) rfl (by rw [hq] <;> rfl) (by rw [hq] <;> first | rfl | (rw [nv_upf]; rfl)) ?_
                  refine g_iincN (L' := [(0, .ref u0), (1, .int (nI p)), (2, .int (nI (vC (visit (nbP (vR t_ k_) 1) u_)))), (3, .int (nI k_)), (4, .int (nI (1 + 1))), (5, .int (nI a_)), (6, .int (nI d_))]) O dX9_meet_154 4 rfl (by decide) [1, 2, 3, 4, 0, 5, 6] rfl ?_
                  refine g_goto (tgt := 26) O dX9_meet_157 (by decide) ?_
                  refine g_locals (L' := [(0, .ref u0), (1, .int (nI p)), (2, .int (nI (vC (visit (nbP (vR t_ k_) 1) u_)))), (3, .int (nI k_)), (4, .int (nI (1 + 1)))]) [0, 1, 2, 3, 4] rfl ?_
                  exact ih26 2 (visit (nbP (vR t_ k_) 1) u_) (by omega) (by rw [hu]; rfl) (by rw [visit_r hul]; exact hur) (cap_visit (fun _ h => nbP_lt h) hucap) (Nat.lt_of_lt_of_le hul visit_cle) (by omega)
                ·
                  have hop : vO u_ (12 * d_ + a_) = true := by simpa using c_17
                  have hlt := cap_lt hucap (by omega) hop
                  have hq : visit (nbP (vR t_ k_) 1) u_ = mkV (upf (vO u_) (12 * d_ + a_) false) (upf (vR u_) (vC u_) (12 * d_ + a_)) (vC u_ + 1) := by rw [hr]; exact visit_t hop hlt
                  refine g_aload_n O dX9_meet_123 0 rfl rfl ?_
                  refine g_get O hiX9_meet_X9 0 rfl rfl 14 (by decide) (by decide +kernel) rfl dX9_meet_124 ?_
                  refine g_bipush (x := (nI 12)) O dX9_meet_127 (by decide +kernel) ?_
                  refine g_iload O dX9_meet_129 6 rfl ?_
                  refine g_imulN O dX9_meet_131 ?_
                  refine g_iload O dX9_meet_132 5 rfl ?_
                  refine g_iaddN O dX9_meet_134 ?_
                  refine g_iconst (x := (nI 1)) O dX9_meet_135 (by decide +kernel) ?_
                  refine g_zastN (f' := (bf (upf (fun p => !vO u_ p) ((12 * d_) + a_) true))) (ws' := [(u0, .inr (9, [.ref u1, .ref u2, .ref u3, .ref u4, .ref u5, .ref u6, .int (nI kn), .ref u7, .int (bB ik), .ref u8, .int (nI ty), .ref u9, .int (nI ta), .int (bB iw), .ref u10, .ref u11])), (u10, .inl ((TY D)[1].1, 144, .inl (bf (upf (fun p => !vO u_ p) ((12 * d_) + a_) true)))), (u11, .inl ((TY D)[0].1, 144, .inl (nf (vR u_))))]) O 1 rfl (by omega) (by omega) dX9_meet_136 (bf_updT _ _) rfl ?_
                  refine g_aload_n O dX9_meet_137 0 rfl rfl ?_
                  refine g_get O hiX9_meet_X9 0 rfl rfl 15 (by decide) (by decide +kernel) rfl dX9_meet_138 ?_
                  refine g_iload_n O dX9_meet_141 2 rfl rfl ?_
                  refine g_bipush (x := (nI 12)) O dX9_meet_142 (by decide +kernel) ?_
                  refine g_iload O dX9_meet_144 6 rfl ?_
                  refine g_imulN O dX9_meet_146 ?_
                  refine g_iload O dX9_meet_147 5 rfl ?_
                  refine g_iaddN O dX9_meet_149 ?_
                  refine g_iastN (f' := (nf (upf (vR u_) (vC u_) ((12 * d_) + a_)))) (ws' := [(u0, .inr (9, [.ref u1, .ref u2, .ref u3, .ref u4, .ref u5, .ref u6, .int (nI kn), .ref u7, .int (bB ik), .ref u8, .int (nI ty), .ref u9, .int (nI ta), .int (bB iw), .ref u10, .ref u11])), (u10, .inl ((TY D)[1].1, 144, .inl (bf (upf (fun p => !vO u_ p) ((12 * d_) + a_) true)))), (u11, .inl ((TY D)[0].1, 144, .inl (nf (upf (vR u_) (vC u_) ((12 * d_) + a_)))))]) O 2 rfl (by omega) (by omega) dX9_meet_150 (nf_upd _ _ _) rfl ?_
                  refine g_iincN (L' := [(0, .ref u0), (1, .int (nI p)), (2, .int (nI ((vC u_) + 1))), (3, .int (nI k_)), (4, .int (nI 1)), (5, .int (nI a_)), (6, .int (nI d_))]) O dX9_meet_151 2 rfl (by decide) [1, 2, 0, 3, 4, 5, 6] rfl ?_
                  refine g_eq (L' := [(0, .ref u0), (1, .int (nI p)), (2, .int (nI (vC (visit (nbP (vR t_ k_) 1) u_)))), (3, .int (nI k_)), (4, .int (nI 1)), (5, .int (nI a_)), (6, .int (nI d_))]) (ws' := [(u0, .inr (9, [.ref u1, .ref u2, .ref u3, .ref u4, .ref u5, .ref u6, .int (nI kn), .ref u7, .int (bB ik), .ref u8, .int (nI ty), .ref u9, .int (nI ta), .int (bB iw), .ref u10, .ref u11])), (u10, .inl ((TY D)[1].1, 144, .inl (bf (fun p => !vO (visit (nbP (vR t_ k_) 1) u_) p)))), (u11, .inl ((TY D)[0].1, 144, .inl (nf (vR (visit (nbP (vR t_ k_) 1) u_)))))]) rfl (by rw [hq] <;> rfl) (by rw [hq] <;> first | rfl | (rw [nv_upf]; rfl)) ?_
                  refine g_iincN (L' := [(0, .ref u0), (1, .int (nI p)), (2, .int (nI (vC (visit (nbP (vR t_ k_) 1) u_)))), (3, .int (nI k_)), (4, .int (nI (1 + 1))), (5, .int (nI a_)), (6, .int (nI d_))]) O dX9_meet_154 4 rfl (by decide) [1, 2, 3, 4, 0, 5, 6] rfl ?_
                  refine g_goto (tgt := 26) O dX9_meet_157 (by decide) ?_
                  refine g_locals (L' := [(0, .ref u0), (1, .int (nI p)), (2, .int (nI (vC (visit (nbP (vR t_ k_) 1) u_)))), (3, .int (nI k_)), (4, .int (nI (1 + 1)))]) [0, 1, 2, 3, 4] rfl ?_
                  exact ih26 2 (visit (nbP (vR t_ k_) 1) u_) (by omega) (by rw [hu]; rfl) (by rw [visit_r hul]; exact hur) (cap_visit (fun _ h => nbP_lt h) hucap) (Nat.lt_of_lt_of_le hul visit_cle) (by omega)
            ·
              refine g_iload O dX9_meet_26 4 rfl ?_
              refine g_iconst (x := (nI 4)) O dX9_meet_28 (by decide +kernel) ?_
              refine g_icmp_geN (tgt := 160) O (by omega) (by omega) dX9_meet_29 (by decide) (fun c_18 => absurd c_18 (by decide)) (fun c_18 => ?_)
              refine g_aload_n O dX9_meet_32 0 rfl rfl ?_
              refine g_get O hiX9_meet_X9 0 rfl rfl 15 (by decide) (by decide +kernel) rfl dX9_meet_33 ?_
              refine g_iload_n O dX9_meet_36 3 rfl rfl ?_
              refine g_ialdN O 2 rfl (by omega) (by omega) dX9_meet_37 ?_
              refine g_eq (st' := [.int (nI (vR t_ k_))]) (by rw [hur]) rfl rfl ?_
              refine g_bipush (x := (nI 12)) O dX9_meet_38 (by decide +kernel) ?_
              refine g_iremN O (by omega) (by omega) (by omega) dX9_meet_40 ?_
              refine g_iload O dX9_meet_41 4 rfl ?_
              refine g_iconst (x := (nI 1)) O dX9_meet_43 (by decide +kernel) ?_
              refine g_icmp_neN (tgt := 51) O (by omega) (by omega) dX9_meet_44 (by decide) (fun c_19 => ?_) (fun c_19 => absurd c_19 (by decide))
              refine g_iload O dX9_meet_51 4 rfl ?_
              refine g_iconst (x := (nI 2)) O dX9_meet_53 (by decide +kernel) ?_
              refine g_icmp_neN (tgt := 61) O (by omega) (by omega) dX9_meet_54 (by decide) (fun c_20 => absurd c_20 (by decide)) (fun c_20 => ?_)
              refine g_iconst (x := (nI 1)) O dX9_meet_57 (by decide +kernel) ?_
              refine g_goto (tgt := 62) O dX9_meet_58 (by decide) ?_
              refine g_iaddN O dX9_meet_62 ?_
              refine g_istore (L' := [(0, .ref u0), (1, .int (nI p)), (2, .int (nI (vC u_))), (3, .int (nI k_)), (4, .int (nI 2)), (5, .int (nI (((vR t_ k_) % 12) + 1)))]) O dX9_meet_63 (by decide) [1, 2, 3, 4, 5, 0] rfl ?_
              obtain ⟨X5, hX5⟩ : ∃ x, x = (nI (((vR t_ k_) % 12) + 1)) := ⟨_, rfl⟩
              refine g_eq (L' := [(0, .ref u0), (1, .int (nI p)), (2, .int (nI (vC u_))), (3, .int (nI k_)), (4, .int (nI 2)), (5, .int X5)]) rfl (by rw [hX5]) rfl ?_
              refine g_aload_n O dX9_meet_65 0 rfl rfl ?_
              refine g_get O hiX9_meet_X9 0 rfl rfl 15 (by decide) (by decide +kernel) rfl dX9_meet_66 ?_
              refine g_iload_n O dX9_meet_69 3 rfl rfl ?_
              refine g_ialdN O 2 rfl (by omega) (by omega) dX9_meet_70 ?_
              refine g_eq (st' := [.int (nI (vR t_ k_))]) (by rw [hur]) rfl rfl ?_
              refine g_bipush (x := (nI 12)) O dX9_meet_71 (by decide +kernel) ?_
              refine g_idivN O (by omega) (by omega) (by omega) dX9_meet_73 ?_
              refine g_iload O dX9_meet_74 4 rfl ?_
              refine g_if_neN (tgt := 83) O (by omega) dX9_meet_76 (by decide) (fun c_21 => ?_) (fun c_21 => absurd c_21 (by decide))
              refine g_iload O dX9_meet_83 4 rfl ?_
              refine g_iconst (x := (nI 3)) O dX9_meet_85 (by decide +kernel) ?_
              refine g_icmp_neN (tgt := 93) O (by omega) (by omega) dX9_meet_86 (by decide) (fun c_22 => ?_) (fun c_22 => absurd c_22 (by decide))
              refine g_iconst (x := (nI 0)) O dX9_meet_93 (by decide +kernel) ?_
              refine g_iaddN O dX9_meet_94 ?_
              refine g_istore (L' := [(0, .ref u0), (1, .int (nI p)), (2, .int (nI (vC u_))), (3, .int (nI k_)), (4, .int (nI 2)), (5, .int X5), (6, .int (nI (((vR t_ k_) / 12) + 0)))]) O dX9_meet_95 (by decide) [1, 2, 3, 4, 5, 6, 0] rfl ?_
              obtain ⟨Y6, hY6⟩ : ∃ x, x = (nI (((vR t_ k_) / 12) + 0)) := ⟨_, rfl⟩
              refine g_eq (L' := [(0, .ref u0), (1, .int (nI p)), (2, .int (nI (vC u_))), (3, .int (nI k_)), (4, .int (nI 2)), (5, .int X5), (6, .int Y6)]) rfl (by rw [hY6]) rfl ?_
              refine g_iload O dX9_meet_97 5 rfl ?_
              refine g_iload O dX9_meet_99 6 rfl ?_
              refine g_callS (As := [.int X5, .int Y6]) (wr := [(u0, .inr (9, [.ref u1, .ref u2, .ref u3, .ref u4, .ref u5, .ref u6, .int (nI kn), .ref u7, .int (bB ik), .ref u8, .int (nI ty), .ref u9, .int (nI ta), .int (bB iw), .ref u10, .ref u11])), (u10, .inl ((TY D)[1].1, 144, .inl (bf (fun p => !vO u_ p)))), (u11, .inl ((TY D)[0].1, 144, .inl (nf (vR u_))))]) O (kX9_isOn l D z X5 Y6 ) gX9_meet_X9_isOn rfl rfl rfl 2 (by decide +kernel) (by decide) (by decide) [] [0, 1, 2] rfl (by decide) rfl (by decide) (by decide) rfl rfl (Nat.le_of_ble_eq_true rfl) dX9_meet_101 (fun r_23 w_24 hp => ?_)
              obtain ⟨rfl, rfl⟩ := hp
              refine g_eq (st' := [.int (bB (rgB X5 12 && rgB Y6 12))]) (ws' := [(u0, .inr (9, [.ref u1, .ref u2, .ref u3, .ref u4, .ref u5, .ref u6, .int (nI kn), .ref u7, .int (bB ik), .ref u8, .int (nI ty), .ref u9, .int (nI ta), .int (bB iw), .ref u10, .ref u11])), (u10, .inl ((TY D)[1].1, 144, .inl (bf (fun p => !vO u_ p)))), (u11, .inl ((TY D)[0].1, 144, .inl (nf (vR u_))))]) rfl rfl rfl ?_
              refine g_if_eqB (tgt := 154) O dX9_meet_104 (by decide) (fun c_25 => ?_) (fun c_25 => ?_)
              ·
                have hnb : nbP (vR t_ k_) 2 = rchP X5 Y6 := by rw [hX5, hY6]; simp only [nbP, m1_e, nI_add, Nat.add_zero]
                have hq : visit (nbP (vR t_ k_) 2) u_ = u_ := by rw [hnb, rchP_n c_25]; rfl
                refine g_eq (L' := [(0, .ref u0), (1, .int (nI p)), (2, .int (nI (vC (visit (nbP (vR t_ k_) 2) u_)))), (3, .int (nI k_)), (4, .int (nI 2)), (5, .int X5), (6, .int Y6)]) (ws' := [(u0, .inr (9, [.ref u1, .ref u2, .ref u3, .ref u4, .ref u5, .ref u6, .int (nI kn), .ref u7, .int (bB ik), .ref u8, .int (nI ty), .ref u9, .int (nI ta), .int (bB iw), .ref u10, .ref u11])), (u10, .inl ((TY D)[1].1, 144, .inl (bf (fun p => !vO (visit (nbP (vR t_ k_) 2) u_) p)))), (u11, .inl ((TY D)[0].1, 144, .inl (nf (vR (visit (nbP (vR t_ k_) 2) u_)))))]) rfl (by rw [hq] <;> rfl) (by rw [hq] <;> first | rfl | (rw [nv_upf]; rfl)) ?_
                refine g_iincN (L' := [(0, .ref u0), (1, .int (nI p)), (2, .int (nI (vC (visit (nbP (vR t_ k_) 2) u_)))), (3, .int (nI k_)), (4, .int (nI (2 + 1))), (5, .int X5), (6, .int Y6)]) O dX9_meet_154 4 rfl (by decide) [1, 2, 3, 4, 0, 5, 6] rfl ?_
                refine g_goto (tgt := 26) O dX9_meet_157 (by decide) ?_
                refine g_locals (L' := [(0, .ref u0), (1, .int (nI p)), (2, .int (nI (vC (visit (nbP (vR t_ k_) 2) u_)))), (3, .int (nI k_)), (4, .int (nI (2 + 1)))]) [0, 1, 2, 3, 4] rfl ?_
                exact ih26 3 (visit (nbP (vR t_ k_) 2) u_) (by omega) (by rw [hu]; rfl) (by rw [visit_r hul]; exact hur) (cap_visit (fun _ h => nbP_lt h) hucap) (Nat.lt_of_lt_of_le hul visit_cle) (by omega)
              ·
                have hnb : nbP (vR t_ k_) 2 = rchP X5 Y6 := by rw [hX5, hY6]; simp only [nbP, m1_e, nI_add, Nat.add_zero]
                rw [Bool.and_eq_true] at c_25
                obtain ⟨⟨a_, ha, hXa⟩, ⟨d_, hd, hYd⟩⟩ := And.intro ((rgB_iff (by decide)).mp c_25.1) ((rgB_iff (by decide)).mp c_25.2)
                have hr : nbP (vR t_ k_) 2 = some (12 * d_ + a_) := by rw [hnb, hXa, hYd, rchP_s ha hd, show d_ * 12 + a_ = 12 * d_ + a_ by omega]
                refine g_eq (L' := [(0, .ref u0), (1, .int (nI p)), (2, .int (nI (vC u_))), (3, .int (nI k_)), (4, .int (nI 2)), (5, .int (nI a_)), (6, .int (nI d_))]) rfl (by rw [hXa, hYd]) rfl ?_
                refine g_aload_n O dX9_meet_107 0 rfl rfl ?_
                refine g_get O hiX9_meet_X9 0 rfl rfl 14 (by decide) (by decide +kernel) rfl dX9_meet_108 ?_
                refine g_bipush (x := (nI 12)) O dX9_meet_111 (by decide +kernel) ?_
                refine g_iload O dX9_meet_113 6 rfl ?_
                refine g_imulN O dX9_meet_115 ?_
                refine g_iload O dX9_meet_116 5 rfl ?_
                refine g_iaddN O dX9_meet_118 ?_
                refine g_zaldN O 1 rfl (by omega) (by omega) dX9_meet_119 ?_
                refine g_if_neB (tgt := 154) O dX9_meet_120 (by decide) (fun c_26 => ?_) (fun c_26 => ?_)
                ·
                  have hq : visit (nbP (vR t_ k_) 2) u_ = u_ := by rw [hr]; exact visit_f (by simpa using c_26)
                  refine g_eq (L' := [(0, .ref u0), (1, .int (nI p)), (2, .int (nI (vC (visit (nbP (vR t_ k_) 2) u_)))), (3, .int (nI k_)), (4, .int (nI 2)), (5, .int (nI a_)), (6, .int (nI d_))]) (ws' := [(u0, .inr (9, [.ref u1, .ref u2, .ref u3, .ref u4, .ref u5, .ref u6, .int (nI kn), .ref u7, .int (bB ik), .ref u8, .int (nI ty), .ref u9, .int (nI ta), .int (bB iw), .ref u10, .ref u11])), (u10, .inl ((TY D)[1].1, 144, .inl (bf (fun p => !vO (visit (nbP (vR t_ k_) 2) u_) p)))), (u11, .inl ((TY D)[0].1, 144, .inl (nf (vR (visit (nbP (vR t_ k_) 2) u_)))))]) rfl (by rw [hq] <;> rfl) (by rw [hq] <;> first | rfl | (rw [nv_upf]; rfl)) ?_
                  refine g_iincN (L' := [(0, .ref u0), (1, .int (nI p)), (2, .int (nI (vC (visit (nbP (vR t_ k_) 2) u_)))), (3, .int (nI k_)), (4, .int (nI (2 + 1))), (5, .int (nI a_)), (6, .int (nI d_))]) O dX9_meet_154 4 rfl (by decide) [1, 2, 3, 4, 0, 5, 6] rfl ?_
                  refine g_goto (tgt := 26) O dX9_meet_157 (by decide) ?_
                  refine g_locals (L' := [(0, .ref u0), (1, .int (nI p)), (2, .int (nI (vC (visit (nbP (vR t_ k_) 2) u_)))), (3, .int (nI k_)), (4, .int (nI (2 + 1)))]) [0, 1, 2, 3, 4] rfl ?_
                  exact ih26 3 (visit (nbP (vR t_ k_) 2) u_) (by omega) (by rw [hu]; rfl) (by rw [visit_r hul]; exact hur) (cap_visit (fun _ h => nbP_lt h) hucap) (Nat.lt_of_lt_of_le hul visit_cle) (by omega)
                ·
                  have hop : vO u_ (12 * d_ + a_) = true := by simpa using c_26
                  have hlt := cap_lt hucap (by omega) hop
                  have hq : visit (nbP (vR t_ k_) 2) u_ = mkV (upf (vO u_) (12 * d_ + a_) false) (upf (vR u_) (vC u_) (12 * d_ + a_)) (vC u_ + 1) := by rw [hr]; exact visit_t hop hlt
                  refine g_aload_n O dX9_meet_123 0 rfl rfl ?_
                  refine g_get O hiX9_meet_X9 0 rfl rfl 14 (by decide) (by decide +kernel) rfl dX9_meet_124 ?_
                  refine g_bipush (x := (nI 12)) O dX9_meet_127 (by decide +kernel) ?_
                  refine g_iload O dX9_meet_129 6 rfl ?_
                  refine g_imulN O dX9_meet_131 ?_
                  refine g_iload O dX9_meet_132 5 rfl ?_
                  refine g_iaddN O dX9_meet_134 ?_
                  refine g_iconst (x := (nI 1)) O dX9_meet_135 (by decide +kernel) ?_
                  refine g_zastN (f' := (bf (upf (fun p => !vO u_ p) ((12 * d_) + a_) true))) (ws' := [(u0, .inr (9, [.ref u1, .ref u2, .ref u3, .ref u4, .ref u5, .ref u6, .int (nI kn), .ref u7, .int (bB ik), .ref u8, .int (nI ty), .ref u9, .int (nI ta), .int (bB iw), .ref u10, .ref u11])), (u10, .inl ((TY D)[1].1, 144, .inl (bf (upf (fun p => !vO u_ p) ((12 * d_) + a_) true)))), (u11, .inl ((TY D)[0].1, 144, .inl (nf (vR u_))))]) O 1 rfl (by omega) (by omega) dX9_meet_136 (bf_updT _ _) rfl ?_
                  refine g_aload_n O dX9_meet_137 0 rfl rfl ?_
                  refine g_get O hiX9_meet_X9 0 rfl rfl 15 (by decide) (by decide +kernel) rfl dX9_meet_138 ?_
                  refine g_iload_n O dX9_meet_141 2 rfl rfl ?_
                  refine g_bipush (x := (nI 12)) O dX9_meet_142 (by decide +kernel) ?_
                  refine g_iload O dX9_meet_144 6 rfl ?_
                  refine g_imulN O dX9_meet_146 ?_
                  refine g_iload O dX9_meet_147 5 rfl ?_
                  refine g_iaddN O dX9_meet_149 ?_
                  refine g_iastN (f' := (nf (upf (vR u_) (vC u_) ((12 * d_) + a_)))) (ws' := [(u0, .inr (9, [.ref u1, .ref u2, .ref u3, .ref u4, .ref u5, .ref u6, .int (nI kn), .ref u7, .int (bB ik), .ref u8, .int (nI ty), .ref u9, .int (nI ta), .int (bB iw), .ref u10, .ref u11])), (u10, .inl ((TY D)[1].1, 144, .inl (bf (upf (fun p => !vO u_ p) ((12 * d_) + a_) true)))), (u11, .inl ((TY D)[0].1, 144, .inl (nf (upf (vR u_) (vC u_) ((12 * d_) + a_)))))]) O 2 rfl (by omega) (by omega) dX9_meet_150 (nf_upd _ _ _) rfl ?_
                  refine g_iincN (L' := [(0, .ref u0), (1, .int (nI p)), (2, .int (nI ((vC u_) + 1))), (3, .int (nI k_)), (4, .int (nI 2)), (5, .int (nI a_)), (6, .int (nI d_))]) O dX9_meet_151 2 rfl (by decide) [1, 2, 0, 3, 4, 5, 6] rfl ?_
                  refine g_eq (L' := [(0, .ref u0), (1, .int (nI p)), (2, .int (nI (vC (visit (nbP (vR t_ k_) 2) u_)))), (3, .int (nI k_)), (4, .int (nI 2)), (5, .int (nI a_)), (6, .int (nI d_))]) (ws' := [(u0, .inr (9, [.ref u1, .ref u2, .ref u3, .ref u4, .ref u5, .ref u6, .int (nI kn), .ref u7, .int (bB ik), .ref u8, .int (nI ty), .ref u9, .int (nI ta), .int (bB iw), .ref u10, .ref u11])), (u10, .inl ((TY D)[1].1, 144, .inl (bf (fun p => !vO (visit (nbP (vR t_ k_) 2) u_) p)))), (u11, .inl ((TY D)[0].1, 144, .inl (nf (vR (visit (nbP (vR t_ k_) 2) u_)))))]) rfl (by rw [hq] <;> rfl) (by rw [hq] <;> first | rfl | (rw [nv_upf]; rfl)) ?_
                  refine g_iincN (L' := [(0, .ref u0), (1, .int (nI p)), (2, .int (nI (vC (visit (nbP (vR t_ k_) 2) u_)))), (3, .int (nI k_)), (4, .int (nI (2 + 1))), (5, .int (nI a_)), (6, .int (nI d_))]) O dX9_meet_154 4 rfl (by decide) [1, 2, 3, 4, 0, 5, 6] rfl ?_
                  refine g_goto (tgt := 26) O dX9_meet_157 (by decide) ?_
                  refine g_locals (L' := [(0, .ref u0), (1, .int (nI p)), (2, .int (nI (vC (visit (nbP (vR t_ k_) 2) u_)))), (3, .int (nI k_)), (4, .int (nI (2 + 1)))]) [0, 1, 2, 3, 4] rfl ?_
                  exact ih26 3 (visit (nbP (vR t_ k_) 2) u_) (by omega) (by rw [hu]; rfl) (by rw [visit_r hul]; exact hur) (cap_visit (fun _ h => nbP_lt h) hucap) (Nat.lt_of_lt_of_le hul visit_cle) (by omega)
            ·
              refine g_iload O dX9_meet_26 4 rfl ?_
              refine g_iconst (x := (nI 4)) O dX9_meet_28 (by decide +kernel) ?_
              refine g_icmp_geN (tgt := 160) O (by omega) (by omega) dX9_meet_29 (by decide) (fun c_27 => absurd c_27 (by decide)) (fun c_27 => ?_)
              refine g_aload_n O dX9_meet_32 0 rfl rfl ?_
              refine g_get O hiX9_meet_X9 0 rfl rfl 15 (by decide) (by decide +kernel) rfl dX9_meet_33 ?_
              refine g_iload_n O dX9_meet_36 3 rfl rfl ?_
              refine g_ialdN O 2 rfl (by omega) (by omega) dX9_meet_37 ?_
              refine g_eq (st' := [.int (nI (vR t_ k_))]) (by rw [hur]) rfl rfl ?_
              refine g_bipush (x := (nI 12)) O dX9_meet_38 (by decide +kernel) ?_
              refine g_iremN O (by omega) (by omega) (by omega) dX9_meet_40 ?_
              refine g_iload O dX9_meet_41 4 rfl ?_
              refine g_iconst (x := (nI 1)) O dX9_meet_43 (by decide +kernel) ?_
              refine g_icmp_neN (tgt := 51) O (by omega) (by omega) dX9_meet_44 (by decide) (fun c_28 => ?_) (fun c_28 => absurd c_28 (by decide))
              refine g_iload O dX9_meet_51 4 rfl ?_
              refine g_iconst (x := (nI 2)) O dX9_meet_53 (by decide +kernel) ?_
              refine g_icmp_neN (tgt := 61) O (by omega) (by omega) dX9_meet_54 (by decide) (fun c_29 => ?_) (fun c_29 => absurd c_29 (by decide))
              refine g_iconst (x := (nI 0)) O dX9_meet_61 (by decide +kernel) ?_
              refine g_iaddN O dX9_meet_62 ?_
              refine g_istore (L' := [(0, .ref u0), (1, .int (nI p)), (2, .int (nI (vC u_))), (3, .int (nI k_)), (4, .int (nI 3)), (5, .int (nI (((vR t_ k_) % 12) + 0)))]) O dX9_meet_63 (by decide) [1, 2, 3, 4, 5, 0] rfl ?_
              obtain ⟨X5, hX5⟩ : ∃ x, x = (nI (((vR t_ k_) % 12) + 0)) := ⟨_, rfl⟩
              refine g_eq (L' := [(0, .ref u0), (1, .int (nI p)), (2, .int (nI (vC u_))), (3, .int (nI k_)), (4, .int (nI 3)), (5, .int X5)]) rfl (by rw [hX5]) rfl ?_
              refine g_aload_n O dX9_meet_65 0 rfl rfl ?_
              refine g_get O hiX9_meet_X9 0 rfl rfl 15 (by decide) (by decide +kernel) rfl dX9_meet_66 ?_
              refine g_iload_n O dX9_meet_69 3 rfl rfl ?_
              refine g_ialdN O 2 rfl (by omega) (by omega) dX9_meet_70 ?_
              refine g_eq (st' := [.int (nI (vR t_ k_))]) (by rw [hur]) rfl rfl ?_
              refine g_bipush (x := (nI 12)) O dX9_meet_71 (by decide +kernel) ?_
              refine g_idivN O (by omega) (by omega) (by omega) dX9_meet_73 ?_
              refine g_iload O dX9_meet_74 4 rfl ?_
              refine g_if_neN (tgt := 83) O (by omega) dX9_meet_76 (by decide) (fun c_30 => ?_) (fun c_30 => absurd c_30 (by decide))
              refine g_iload O dX9_meet_83 4 rfl ?_
              refine g_iconst (x := (nI 3)) O dX9_meet_85 (by decide +kernel) ?_
              refine g_icmp_neN (tgt := 93) O (by omega) (by omega) dX9_meet_86 (by decide) (fun c_31 => absurd c_31 (by decide)) (fun c_31 => ?_)
              refine g_iconst (x := (nI 1)) O dX9_meet_89 (by decide +kernel) ?_
              refine g_goto (tgt := 94) O dX9_meet_90 (by decide) ?_
              refine g_iaddN O dX9_meet_94 ?_
              refine g_istore (L' := [(0, .ref u0), (1, .int (nI p)), (2, .int (nI (vC u_))), (3, .int (nI k_)), (4, .int (nI 3)), (5, .int X5), (6, .int (nI (((vR t_ k_) / 12) + 1)))]) O dX9_meet_95 (by decide) [1, 2, 3, 4, 5, 6, 0] rfl ?_
              obtain ⟨Y6, hY6⟩ : ∃ x, x = (nI (((vR t_ k_) / 12) + 1)) := ⟨_, rfl⟩
              refine g_eq (L' := [(0, .ref u0), (1, .int (nI p)), (2, .int (nI (vC u_))), (3, .int (nI k_)), (4, .int (nI 3)), (5, .int X5), (6, .int Y6)]) rfl (by rw [hY6]) rfl ?_
              refine g_iload O dX9_meet_97 5 rfl ?_
              refine g_iload O dX9_meet_99 6 rfl ?_
              refine g_callS (As := [.int X5, .int Y6]) (wr := [(u0, .inr (9, [.ref u1, .ref u2, .ref u3, .ref u4, .ref u5, .ref u6, .int (nI kn), .ref u7, .int (bB ik), .ref u8, .int (nI ty), .ref u9, .int (nI ta), .int (bB iw), .ref u10, .ref u11])), (u10, .inl ((TY D)[1].1, 144, .inl (bf (fun p => !vO u_ p)))), (u11, .inl ((TY D)[0].1, 144, .inl (nf (vR u_))))]) O (kX9_isOn l D z X5 Y6 ) gX9_meet_X9_isOn rfl rfl rfl 2 (by decide +kernel) (by decide) (by decide) [] [0, 1, 2] rfl (by decide) rfl (by decide) (by decide) rfl rfl (Nat.le_of_ble_eq_true rfl) dX9_meet_101 (fun r_32 w_33 hp => ?_)
              obtain ⟨rfl, rfl⟩ := hp
              refine g_eq (st' := [.int (bB (rgB X5 12 && rgB Y6 12))]) (ws' := [(u0, .inr (9, [.ref u1, .ref u2, .ref u3, .ref u4, .ref u5, .ref u6, .int (nI kn), .ref u7, .int (bB ik), .ref u8, .int (nI ty), .ref u9, .int (nI ta), .int (bB iw), .ref u10, .ref u11])), (u10, .inl ((TY D)[1].1, 144, .inl (bf (fun p => !vO u_ p)))), (u11, .inl ((TY D)[0].1, 144, .inl (nf (vR u_))))]) rfl rfl rfl ?_
              refine g_if_eqB (tgt := 154) O dX9_meet_104 (by decide) (fun c_34 => ?_) (fun c_34 => ?_)
              ·
                have hnb : nbP (vR t_ k_) 3 = rchP X5 Y6 := by rw [hX5, hY6]; simp only [nbP, m1_e, nI_add, Nat.add_zero]
                have hq : visit (nbP (vR t_ k_) 3) u_ = u_ := by rw [hnb, rchP_n c_34]; rfl
                refine g_eq (L' := [(0, .ref u0), (1, .int (nI p)), (2, .int (nI (vC (visit (nbP (vR t_ k_) 3) u_)))), (3, .int (nI k_)), (4, .int (nI 3)), (5, .int X5), (6, .int Y6)]) (ws' := [(u0, .inr (9, [.ref u1, .ref u2, .ref u3, .ref u4, .ref u5, .ref u6, .int (nI kn), .ref u7, .int (bB ik), .ref u8, .int (nI ty), .ref u9, .int (nI ta), .int (bB iw), .ref u10, .ref u11])), (u10, .inl ((TY D)[1].1, 144, .inl (bf (fun p => !vO (visit (nbP (vR t_ k_) 3) u_) p)))), (u11, .inl ((TY D)[0].1, 144, .inl (nf (vR (visit (nbP (vR t_ k_) 3) u_)))))]) rfl (by rw [hq] <;> rfl) (by rw [hq] <;> first | rfl | (rw [nv_upf]; rfl)) ?_
                refine g_iincN (L' := [(0, .ref u0), (1, .int (nI p)), (2, .int (nI (vC (visit (nbP (vR t_ k_) 3) u_)))), (3, .int (nI k_)), (4, .int (nI (3 + 1))), (5, .int X5), (6, .int Y6)]) O dX9_meet_154 4 rfl (by decide) [1, 2, 3, 4, 0, 5, 6] rfl ?_
                refine g_goto (tgt := 26) O dX9_meet_157 (by decide) ?_
                refine g_locals (L' := [(0, .ref u0), (1, .int (nI p)), (2, .int (nI (vC (visit (nbP (vR t_ k_) 3) u_)))), (3, .int (nI k_)), (4, .int (nI (3 + 1)))]) [0, 1, 2, 3, 4] rfl ?_
                exact ih26 4 (visit (nbP (vR t_ k_) 3) u_) (by omega) (by rw [hu]; rfl) (by rw [visit_r hul]; exact hur) (cap_visit (fun _ h => nbP_lt h) hucap) (Nat.lt_of_lt_of_le hul visit_cle) (by omega)
              ·
                have hnb : nbP (vR t_ k_) 3 = rchP X5 Y6 := by rw [hX5, hY6]; simp only [nbP, m1_e, nI_add, Nat.add_zero]
                rw [Bool.and_eq_true] at c_34
                obtain ⟨⟨a_, ha, hXa⟩, ⟨d_, hd, hYd⟩⟩ := And.intro ((rgB_iff (by decide)).mp c_34.1) ((rgB_iff (by decide)).mp c_34.2)
                have hr : nbP (vR t_ k_) 3 = some (12 * d_ + a_) := by rw [hnb, hXa, hYd, rchP_s ha hd, show d_ * 12 + a_ = 12 * d_ + a_ by omega]
                refine g_eq (L' := [(0, .ref u0), (1, .int (nI p)), (2, .int (nI (vC u_))), (3, .int (nI k_)), (4, .int (nI 3)), (5, .int (nI a_)), (6, .int (nI d_))]) rfl (by rw [hXa, hYd]) rfl ?_
                refine g_aload_n O dX9_meet_107 0 rfl rfl ?_
                refine g_get O hiX9_meet_X9 0 rfl rfl 14 (by decide) (by decide +kernel) rfl dX9_meet_108 ?_
                refine g_bipush (x := (nI 12)) O dX9_meet_111 (by decide +kernel) ?_
                refine g_iload O dX9_meet_113 6 rfl ?_
                refine g_imulN O dX9_meet_115 ?_
                refine g_iload O dX9_meet_116 5 rfl ?_
                refine g_iaddN O dX9_meet_118 ?_
                refine g_zaldN O 1 rfl (by omega) (by omega) dX9_meet_119 ?_
                refine g_if_neB (tgt := 154) O dX9_meet_120 (by decide) (fun c_35 => ?_) (fun c_35 => ?_)
                ·
                  have hq : visit (nbP (vR t_ k_) 3) u_ = u_ := by rw [hr]; exact visit_f (by simpa using c_35)
                  refine g_eq (L' := [(0, .ref u0), (1, .int (nI p)), (2, .int (nI (vC (visit (nbP (vR t_ k_) 3) u_)))), (3, .int (nI k_)), (4, .int (nI 3)), (5, .int (nI a_)), (6, .int (nI d_))]) (ws' := [(u0, .inr (9, [.ref u1, .ref u2, .ref u3, .ref u4, .ref u5, .ref u6, .int (nI kn), .ref u7, .int (bB ik), .ref u8, .int (nI ty), .ref u9, .int (nI ta), .int (bB iw), .ref u10, .ref u11])), (u10, .inl ((TY D)[1].1, 144, .inl (bf (fun p => !vO (visit (nbP (vR t_ k_) 3) u_) p)))), (u11, .inl ((TY D)[0].1, 144, .inl (nf (vR (visit (nbP (vR t_ k_) 3) u_)))))]) rfl (by rw [hq] <;> rfl) (by rw [hq] <;> first | rfl | (rw [nv_upf]; rfl)) ?_
                  refine g_iincN (L' := [(0, .ref u0), (1, .int (nI p)), (2, .int (nI (vC (visit (nbP (vR t_ k_) 3) u_)))), (3, .int (nI k_)), (4, .int (nI (3 + 1))), (5, .int (nI a_)), (6, .int (nI d_))]) O dX9_meet_154 4 rfl (by decide) [1, 2, 3, 4, 0, 5, 6] rfl ?_
                  refine g_goto (tgt := 26) O dX9_meet_157 (by decide) ?_
                  refine g_locals (L' := [(0, .ref u0), (1, .int (nI p)), (2, .int (nI (vC (visit (nbP (vR t_ k_) 3) u_)))), (3, .int (nI k_)), (4, .int (nI (3 + 1)))]) [0, 1, 2, 3, 4] rfl ?_
                  exact ih26 4 (visit (nbP (vR t_ k_) 3) u_) (by omega) (by rw [hu]; rfl) (by rw [visit_r hul]; exact hur) (cap_visit (fun _ h => nbP_lt h) hucap) (Nat.lt_of_lt_of_le hul visit_cle) (by omega)
                ·
                  have hop : vO u_ (12 * d_ + a_) = true := by simpa using c_35
                  have hlt := cap_lt hucap (by omega) hop
                  have hq : visit (nbP (vR t_ k_) 3) u_ = mkV (upf (vO u_) (12 * d_ + a_) false) (upf (vR u_) (vC u_) (12 * d_ + a_)) (vC u_ + 1) := by rw [hr]; exact visit_t hop hlt
                  refine g_aload_n O dX9_meet_123 0 rfl rfl ?_
                  refine g_get O hiX9_meet_X9 0 rfl rfl 14 (by decide) (by decide +kernel) rfl dX9_meet_124 ?_
                  refine g_bipush (x := (nI 12)) O dX9_meet_127 (by decide +kernel) ?_
                  refine g_iload O dX9_meet_129 6 rfl ?_
                  refine g_imulN O dX9_meet_131 ?_
                  refine g_iload O dX9_meet_132 5 rfl ?_
                  refine g_iaddN O dX9_meet_134 ?_
                  refine g_iconst (x := (nI 1)) O dX9_meet_135 (by decide +kernel) ?_
                  refine g_zastN (f' := (bf (upf (fun p => !vO u_ p) ((12 * d_) + a_) true))) (ws' := [(u0, .inr (9, [.ref u1, .ref u2, .ref u3, .ref u4, .ref u5, .ref u6, .int (nI kn), .ref u7, .int (bB ik), .ref u8, .int (nI ty), .ref u9, .int (nI ta), .int (bB iw), .ref u10, .ref u11])), (u10, .inl ((TY D)[1].1, 144, .inl (bf (upf (fun p => !vO u_ p) ((12 * d_) + a_) true)))), (u11, .inl ((TY D)[0].1, 144, .inl (nf (vR u_))))]) O 1 rfl (by omega) (by omega) dX9_meet_136 (bf_updT _ _) rfl ?_
                  refine g_aload_n O dX9_meet_137 0 rfl rfl ?_
                  refine g_get O hiX9_meet_X9 0 rfl rfl 15 (by decide) (by decide +kernel) rfl dX9_meet_138 ?_
                  refine g_iload_n O dX9_meet_141 2 rfl rfl ?_
                  refine g_bipush (x := (nI 12)) O dX9_meet_142 (by decide +kernel) ?_
                  refine g_iload O dX9_meet_144 6 rfl ?_
                  refine g_imulN O dX9_meet_146 ?_
                  refine g_iload O dX9_meet_147 5 rfl ?_
                  refine g_iaddN O dX9_meet_149 ?_
                  refine g_iastN (f' := (nf (upf (vR u_) (vC u_) ((12 * d_) + a_)))) (ws' := [(u0, .inr (9, [.ref u1, .ref u2, .ref u3, .ref u4, .ref u5, .ref u6, .int (nI kn), .ref u7, .int (bB ik), .ref u8, .int (nI ty), .ref u9, .int (nI ta), .int (bB iw), .ref u10, .ref u11])), (u10, .inl ((TY D)[1].1, 144, .inl (bf (upf (fun p => !vO u_ p) ((12 * d_) + a_) true)))), (u11, .inl ((TY D)[0].1, 144, .inl (nf (upf (vR u_) (vC u_) ((12 * d_) + a_)))))]) O 2 rfl (by omega) (by omega) dX9_meet_150 (nf_upd _ _ _) rfl ?_
                  refine g_iincN (L' := [(0, .ref u0), (1, .int (nI p)), (2, .int (nI ((vC u_) + 1))), (3, .int (nI k_)), (4, .int (nI 3)), (5, .int (nI a_)), (6, .int (nI d_))]) O dX9_meet_151 2 rfl (by decide) [1, 2, 0, 3, 4, 5, 6] rfl ?_
                  refine g_eq (L' := [(0, .ref u0), (1, .int (nI p)), (2, .int (nI (vC (visit (nbP (vR t_ k_) 3) u_)))), (3, .int (nI k_)), (4, .int (nI 3)), (5, .int (nI a_)), (6, .int (nI d_))]) (ws' := [(u0, .inr (9, [.ref u1, .ref u2, .ref u3, .ref u4, .ref u5, .ref u6, .int (nI kn), .ref u7, .int (bB ik), .ref u8, .int (nI ty), .ref u9, .int (nI ta), .int (bB iw), .ref u10, .ref u11])), (u10, .inl ((TY D)[1].1, 144, .inl (bf (fun p => !vO (visit (nbP (vR t_ k_) 3) u_) p)))), (u11, .inl ((TY D)[0].1, 144, .inl (nf (vR (visit (nbP (vR t_ k_) 3) u_)))))]) rfl (by rw [hq] <;> rfl) (by rw [hq] <;> first | rfl | (rw [nv_upf]; rfl)) ?_
                  refine g_iincN (L' := [(0, .ref u0), (1, .int (nI p)), (2, .int (nI (vC (visit (nbP (vR t_ k_) 3) u_)))), (3, .int (nI k_)), (4, .int (nI (3 + 1))), (5, .int (nI a_)), (6, .int (nI d_))]) O dX9_meet_154 4 rfl (by decide) [1, 2, 3, 4, 0, 5, 6] rfl ?_
                  refine g_goto (tgt := 26) O dX9_meet_157 (by decide) ?_
                  refine g_locals (L' := [(0, .ref u0), (1, .int (nI p)), (2, .int (nI (vC (visit (nbP (vR t_ k_) 3) u_)))), (3, .int (nI k_)), (4, .int (nI (3 + 1)))]) [0, 1, 2, 3, 4] rfl ?_
                  exact ih26 4 (visit (nbP (vR t_ k_) 3) u_) (by omega) (by rw [hu]; rfl) (by rw [visit_r hul]; exact hur) (cap_visit (fun _ h => nbP_lt h) hucap) (Nat.lt_of_lt_of_le hul visit_cle) (by omega)
            ·
              refine g_iload O dX9_meet_26 4 rfl ?_
              refine g_iconst (x := (nI 4)) O dX9_meet_28 (by decide +kernel) ?_
              refine g_icmp_geN (tgt := 160) O (by omega) (by omega) dX9_meet_29 (by decide) (fun c_36 => ?_) (fun c_36 => absurd c_36 (by decide))
              refine g_iincN (L' := [(0, .ref u0), (1, .int (nI p)), (2, .int (nI (vC u_))), (3, .int (nI (k_ + 1))), (4, .int (nI 4))]) O dX9_meet_160 3 rfl (by decide) [1, 2, 3, 0, 4] rfl ?_
              refine g_goto (tgt := 18) O dX9_meet_163 (by decide) ?_
              refine g_locals (L' := [(0, .ref u0), (1, .int (nI p)), (2, .int (nI (vC u_))), (3, .int (nI (k_ + 1)))]) [0, 1, 2, 3] rfl ?_
              exact ih_ (k_ + 1) u_ (by omega) (by rw [← hb, hu, vs4]; exact (bfs_s (by omega) (by omega)).symm) (by rw [hu, vs4]; exact vis4_ok hr_) (hucap) (by omega)
        exact J26 _ 0 t_ (Nat.zero_le _) (rfl) (rfl) (hcap) (by omega) (Nat.lt_succ_self _)
  exact J18 _ 0 (mkV (upf (vO t) p false) (upf (vR t) 0 p) 1) (Nat.zero_le _) (hc0.symm) (fun j hj => by (have hj : j < 1 := hj); obtain rfl : j = 0 := by omega; show upf (vR t) 0 p 0 < 144; rw [upf_s]; exact hp) (hcap0) (Nat.lt_succ_self _)

theorem hiX9_lines_X9 : ∀ w ∈ wsX90, w ∈ wsX9_lines := by decide +kernel
set_option maxHeartbeats 4000000 in
set_option maxRecDepth 100000 in
/-- how many lines -/
theorem kX9_lines (l : Launch) (D : va_G) (z : Nat × Nat × Nat) (u0 : Nat) (u1 : Nat) (u2 : Nat) (u3 : Nat) (u4 : Nat) (u5 : Nat) (u6 : Nat) (u7 : Nat) (u8 : Nat) (u9 : Nat) (u10 : Nat) (u11 : Nat) (kn : Nat) (ik : Bool) (ty : Nat) (ta : Nat) (iw : Bool) (M : Nat → Int32) (s : SV) (me : Nat → Bool) (rw_ : Nat → Nat) (w : Nat) (hw : w < 48) (hM : RM M s) : CM l yX9_lines wsX9_lines ({ frames := 3, cells := 0, slots := 0, locals := 69 } : Room) D z [.ref u0, .int (nI w)] [(u0, .inr (9, [.ref u1, .ref u2, .ref u3, .ref u4, .ref u5, .ref u6, .int (nI kn), .ref u7, .int (bB ik), .ref u8, .int (nI ty), .ref u9, .int (nI ta), .int (bB iw), .ref u10, .ref u11])), (u4, .inl ((TY D)[0].1, 6912, .inl SWT)), (u5, .inl ((TY D)[0].1, 208, .inl M)), (u10, .inl ((TY D)[1].1, 144, .inl (bf me))), (u11, .inl ((TY D)[0].1, 144, .inl (nf rw_)))] (fun r_ w_ => ∃ (me9 : Nat → Bool), ∃ (rw9 : Nat → Nat), r_ = some (.int (nI ((lnF s w rw_ 0 144).2))) ∧ w_ = [(u0, .inr (9, [.ref u1, .ref u2, .ref u3, .ref u4, .ref u5, .ref u6, .int (nI kn), .ref u7, .int (bB ik), .ref u8, .int (nI ty), .ref u9, .int (nI ta), .int (bB iw), .ref u10, .ref u11])), (u4, .inl ((TY D)[0].1, 6912, .inl SWT)), (u5, .inl ((TY D)[0].1, 208, .inl M)), (u10, .inl ((TY D)[1].1, 144, .inl (bf me9))), (u11, .inl ((TY D)[0].1, 144, .inl (nf rw9)))]) 0 0 := by
  refine CM_int (own := RX9) (cc := cX9_lines) (maxL := 4) (L0 := [(0, .ref u0), (1, .int (nI w))]) (by decide) rfl rfl (Nat.le_of_ble_eq_true rfl) rfl (fun X O E => ?_)
  refine g_iconst (x := (nI 0)) O dX9_lines_0 (by decide +kernel) ?_
  refine g_istore_n (L' := [(0, .ref u0), (1, .int (nI w)), (2, .int (nI 0))]) O dX9_lines_1 rfl (by decide) [1, 2, 0] rfl ?_
  refine g_iconst (x := (nI 0)) O dX9_lines_2 (by decide +kernel) ?_
  refine g_istore_n (L' := [(0, .ref u0), (1, .int (nI w)), (2, .int (nI 0)), (3, .int (nI 0))]) O dX9_lines_3 rfl (by decide) [1, 2, 3, 0] rfl ?_
  have J4 : ∀ (n_ : Nat), ∀ (i_ : Nat) (E_ : Nat → Bool) (hi_ : i_ ≤ 144) (hF : ∀ j, j < i_ → E_ j = !stB s w j), 144 - i_ < n_ → G X 0 0 4 [(0, .ref u0), (1, .int (nI w)), (2, .int (nI 0)), (3, .int (nI i_))] [] [(u0, .inr (9, [.ref u1, .ref u2, .ref u3, .ref u4, .ref u5, .ref u6, .int (nI kn), .ref u7, .int (bB ik), .ref u8, .int (nI ty), .ref u9, .int (nI ta), .int (bB iw), .ref u10, .ref u11])), (u4, .inl ((TY D)[0].1, 6912, .inl SWT)), (u5, .inl ((TY D)[0].1, 208, .inl M)), (u10, .inl ((TY D)[1].1, 144, .inl (bf E_))), (u11, .inl ((TY D)[0].1, 144, .inl (nf rw_)))] := by
    intro n_
    induction n_ with
    | zero => intro i_ E_ hi_ hF hm_; exact absurd hm_ (Nat.not_lt_zero _)
    | succ n_ ih_ =>
      intro i_ E_ hi_ hF hm_
      refine g_iload_n O dX9_lines_4 3 rfl rfl ?_
      refine g_sipush (x := (nI 144)) O dX9_lines_5 (by decide +kernel) ?_
      refine g_icmp_geN (tgt := 37) O (by omega) (by omega) dX9_lines_8 (by decide) (fun c_1 => ?_) (fun c_1 => ?_)
      ·
        refine g_arr (f' := bf (fun p => !vO (mkV (fun p => stB s w p) rw_ 0) p)) (ws' := [(u0, .inr (9, [.ref u1, .ref u2, .ref u3, .ref u4, .ref u5, .ref u6, .int (nI kn), .ref u7, .int (bB ik), .ref u8, .int (nI ty), .ref u9, .int (nI ta), .int (bB iw), .ref u10, .ref u11])), (u4, .inl ((TY D)[0].1, 6912, .inl SWT)), (u5, .inl ((TY D)[0].1, 208, .inl M)), (u10, .inl ((TY D)[1].1, 144, .inl (bf (fun p => !vO (mkV (fun p => stB s w p) rw_ 0) p)))), (u11, .inl ((TY D)[0].1, 144, .inl (nf rw_)))]) 3 rfl (fun j hj => by show bB (E_ j) = bB (!stB s w j); rw [hF j (by omega)]) rfl ?_
        refine g_iconst (x := (nI 0)) O dX9_lines_37 (by decide +kernel) ?_
        refine g_istore_n (L' := [(0, .ref u0), (1, .int (nI w)), (2, .int (nI 0)), (3, .int (nI 0))]) O dX9_lines_38 rfl (by decide) [1, 2, 3, 0] rfl ?_
        have J39 : ∀ (n_ : Nat), ∀ (i_ : Nat) (h_ : Nat) (t_ : VT) (hi_ : i_ ≤ 144) (hTv : t_ = (lnF s w rw_ 0 i_).1) (hh : h_ = (lnF s w rw_ 0 i_).2) (hl : h_ ≤ i_), 144 - i_ < n_ → G X 0 0 39 [(0, .ref u0), (1, .int (nI w)), (2, .int (nI h_)), (3, .int (nI i_))] [] [(u0, .inr (9, [.ref u1, .ref u2, .ref u3, .ref u4, .ref u5, .ref u6, .int (nI kn), .ref u7, .int (bB ik), .ref u8, .int (nI ty), .ref u9, .int (nI ta), .int (bB iw), .ref u10, .ref u11])), (u4, .inl ((TY D)[0].1, 6912, .inl SWT)), (u5, .inl ((TY D)[0].1, 208, .inl M)), (u10, .inl ((TY D)[1].1, 144, .inl (bf (fun p => !vO t_ p)))), (u11, .inl ((TY D)[0].1, 144, .inl (nf (vR t_))))] := by
          intro n_
          induction n_ with
          | zero => intro i_ h_ t_ hi_ hTv hh hl hm_; exact absurd hm_ (Nat.not_lt_zero _)
          | succ n_ ih_ =>
            intro i_ h_ t_ hi_ hTv hh hl hm_
            refine g_iload_n O dX9_lines_39 3 rfl rfl ?_
            refine g_sipush (x := (nI 144)) O dX9_lines_40 (by decide +kernel) ?_
            refine g_icmp_geN (tgt := 69) O (by omega) (by omega) dX9_lines_43 (by decide) (fun c_2 => ?_) (fun c_2 => ?_)
            ·
              obtain rfl : i_ = 144 := by omega
              refine g_iload_n O dX9_lines_69 2 rfl rfl ?_
              exact E 70 _ (nI h_) _ dX9_lines_70 (by rw [hh]; exact ⟨_, _, rfl, rfl⟩)
            ·
              refine g_aload_n O dX9_lines_46 0 rfl rfl ?_
              refine g_get O hiX9_lines_X9 0 rfl rfl 14 (by decide) (by decide +kernel) rfl dX9_lines_47 ?_
              refine g_iload_n O dX9_lines_50 3 rfl rfl ?_
              refine g_zaldN O 3 rfl (by omega) (by omega) dX9_lines_51 ?_
              refine g_if_neB (tgt := 63) O dX9_lines_52 (by decide) (fun c_3 => ?_) (fun c_3 => ?_)
              ·
                have hq : lnF s w rw_ 0 (i_ + 1) = (lnF s w rw_ 0 i_) := by simp only [lnF]; rw [← hTv, if_neg (by simpa using c_3)]
                refine g_iincN (L' := [(0, .ref u0), (1, .int (nI w)), (2, .int (nI h_)), (3, .int (nI (i_ + 1)))]) O dX9_lines_63 3 rfl (by decide) [1, 2, 3, 0] rfl ?_
                refine g_goto (tgt := 39) O dX9_lines_66 (by decide) ?_
                exact ih_ (i_ + 1) _ t_ (by first | assumption | omega | rfl) (by rw [hq] <;> first | rfl | exact hTv) (by rw [hq] <;> first | rfl | exact hh) (by first | assumption | omega | rfl) (by omega)
              ·
                have hop : vO t_ i_ = true := by simpa using c_3
                have hq : lnF s w rw_ 0 (i_ + 1) = (clF t_ i_, h_ + 1) := by simp only [lnF]; rw [← hTv, ← hh, if_pos hop]
                refine g_iincN (L' := [(0, .ref u0), (1, .int (nI w)), (2, .int (nI (h_ + 1))), (3, .int (nI i_))]) O dX9_lines_55 2 rfl (by decide) [1, 2, 0, 3] rfl ?_
                refine g_aload_n O dX9_lines_58 0 rfl rfl ?_
                refine g_iload_n O dX9_lines_59 3 rfl rfl ?_
                refine g_callV (As := [.int (nI i_)]) (wr := [(u4, .inl ((TY D)[0].1, 6912, .inl SWT)), (u5, .inl ((TY D)[0].1, 208, .inl M))]) O (kX9_meet l D z u0 u1 u2 u3 u4 u5 u6 u7 u8 u9 u10 u11 kn ik ty ta iw t_ i_ (by first | assumption | omega) (by first | assumption | omega)) gX9_lines_X9_meet rfl rfl rfl 1 (by decide +kernel) (by decide) (by decide) (q0 := 0) rfl rfl rfl [0, 3, 4] [1, 2] rfl (by decide) rfl (by decide) (by decide) rfl rfl (Nat.le_of_ble_eq_true rfl) dX9_lines_60 (fun r_4 w_5 hp => ?_)
                obtain ⟨rfl, rfl⟩ := hp
                refine g_eq (st' := []) (ws' := [(u4, .inl ((TY D)[0].1, 6912, .inl SWT)), (u5, .inl ((TY D)[0].1, 208, .inl M)), (u0, .inr (9, [.ref u1, .ref u2, .ref u3, .ref u4, .ref u5, .ref u6, .int (nI kn), .ref u7, .int (bB ik), .ref u8, .int (nI ty), .ref u9, .int (nI ta), .int (bB iw), .ref u10, .ref u11])), (u10, .inl ((TY D)[1].1, 144, .inl (bf (fun p => !vO (clF t_ i_) p)))), (u11, .inl ((TY D)[0].1, 144, .inl (nf (vR (clF t_ i_)))))]) rfl rfl rfl ?_
                refine g_iincN (L' := [(0, .ref u0), (1, .int (nI w)), (2, .int (nI (h_ + 1))), (3, .int (nI (i_ + 1)))]) O dX9_lines_63 3 rfl (by decide) [1, 2, 3, 0] rfl ?_
                refine g_goto (tgt := 39) O dX9_lines_66 (by decide) ?_
                refine g_perm (ws' := [(u0, .inr (9, [.ref u1, .ref u2, .ref u3, .ref u4, .ref u5, .ref u6, .int (nI kn), .ref u7, .int (bB ik), .ref u8, .int (nI ty), .ref u9, .int (nI ta), .int (bB iw), .ref u10, .ref u11])), (u4, .inl ((TY D)[0].1, 6912, .inl SWT)), (u5, .inl ((TY D)[0].1, 208, .inl M)), (u10, .inl ((TY D)[1].1, 144, .inl (bf (fun p => !vO (clF t_ i_) p)))), (u11, .inl ((TY D)[0].1, 144, .inl (nf (vR (clF t_ i_)))))]) [2, 0, 1, 3, 4] rfl (by decide) ?_
                exact ih_ (i_ + 1) _ (clF t_ i_) (by first | assumption | omega | rfl) (by rw [hq] <;> first | rfl | exact hTv) (by rw [hq] <;> first | rfl | exact hh) (by first | assumption | omega | rfl) (by omega)
        exact J39 _ 0 0 (mkV (fun p => stB s w p) rw_ 0) (Nat.zero_le _) (rfl) (rfl) (Nat.le_refl _) (Nat.lt_succ_self _)
      ·
        refine g_aload_n O dX9_lines_11 0 rfl rfl ?_
        refine g_get O hiX9_lines_X9 0 rfl rfl 14 (by decide) (by decide +kernel) rfl dX9_lines_12 ?_
        refine g_iload_n O dX9_lines_15 3 rfl rfl ?_
        refine g_aload_n O dX9_lines_16 0 rfl rfl ?_
        refine g_iload_n O dX9_lines_17 1 rfl rfl ?_
        refine g_iload_n O dX9_lines_18 3 rfl rfl ?_
        refine g_callV (As := [.int (nI w), .int (nI i_)]) (wr := [(u10, .inl ((TY D)[1].1, 144, .inl (bf E_))), (u11, .inl ((TY D)[0].1, 144, .inl (nf rw_)))]) O (kX9_isStill l D z u0 u1 u2 u3 u4 u5 u6 u7 u8 u9 u10 u11 kn ik ty ta iw M s w i_ (by first | assumption | omega) (by first | assumption | omega) (by first | assumption | omega)) gX9_lines_X9_isStill rfl rfl rfl 2 (by decide +kernel) (by decide) (by decide) (q0 := 0) rfl rfl rfl [0, 1, 2] [3, 4] rfl (by decide) rfl (by decide) (by decide) rfl rfl (Nat.le_of_ble_eq_true rfl) dX9_lines_19 (fun r_6 w_7 hp => ?_)
        obtain ⟨rfl, rfl⟩ := hp
        refine g_eq (st' := [.int (bB (stB s w i_)), .int (nI i_), .ref u10]) (ws' := [(u10, .inl ((TY D)[1].1, 144, .inl (bf E_))), (u11, .inl ((TY D)[0].1, 144, .inl (nf rw_))), (u0, .inr (9, [.ref u1, .ref u2, .ref u3, .ref u4, .ref u5, .ref u6, .int (nI kn), .ref u7, .int (bB ik), .ref u8, .int (nI ty), .ref u9, .int (nI ta), .int (bB iw), .ref u10, .ref u11])), (u4, .inl ((TY D)[0].1, 6912, .inl SWT)), (u5, .inl ((TY D)[0].1, 208, .inl M))]) rfl rfl rfl ?_
        refine g_if_neB (tgt := 29) O dX9_lines_22 (by decide) (fun c_8 => ?_) (fun c_8 => ?_)
        ·
          refine g_iconst (x := (nI 0)) O dX9_lines_29 (by decide +kernel) ?_
          refine g_zastN (f' := (bf (upf E_ i_ false))) (ws' := [(u10, .inl ((TY D)[1].1, 144, .inl (bf (upf E_ i_ false)))), (u11, .inl ((TY D)[0].1, 144, .inl (nf rw_))), (u0, .inr (9, [.ref u1, .ref u2, .ref u3, .ref u4, .ref u5, .ref u6, .int (nI kn), .ref u7, .int (bB ik), .ref u8, .int (nI ty), .ref u9, .int (nI ta), .int (bB iw), .ref u10, .ref u11])), (u4, .inl ((TY D)[0].1, 6912, .inl SWT)), (u5, .inl ((TY D)[0].1, 208, .inl M))]) O 0 rfl (by omega) (by omega) dX9_lines_30 (bf_updF _ _) rfl ?_
          refine g_iincN (L' := [(0, .ref u0), (1, .int (nI w)), (2, .int (nI 0)), (3, .int (nI (i_ + 1)))]) O dX9_lines_31 3 rfl (by decide) [1, 2, 3, 0] rfl ?_
          refine g_goto (tgt := 4) O dX9_lines_34 (by decide) ?_
          refine g_perm (ws' := [(u0, .inr (9, [.ref u1, .ref u2, .ref u3, .ref u4, .ref u5, .ref u6, .int (nI kn), .ref u7, .int (bB ik), .ref u8, .int (nI ty), .ref u9, .int (nI ta), .int (bB iw), .ref u10, .ref u11])), (u4, .inl ((TY D)[0].1, 6912, .inl SWT)), (u5, .inl ((TY D)[0].1, 208, .inl M)), (u10, .inl ((TY D)[1].1, 144, .inl (bf (upf E_ i_ false)))), (u11, .inl ((TY D)[0].1, 144, .inl (nf rw_)))]) [2, 3, 4, 0, 1] rfl (by decide) ?_
          exact ih_ (i_ + 1) _ (by first | assumption | omega | rfl) (fun j hj => by by_cases h : j = i_; (subst h; rw [upf_s]; simp_all); (rw [upf_n h]; exact hF j (by omega))) (by omega)
        ·
          refine g_iconst (x := (nI 1)) O dX9_lines_25 (by decide +kernel) ?_
          refine g_goto (tgt := 30) O dX9_lines_26 (by decide) ?_
          refine g_zastN (f' := (bf (upf E_ i_ true))) (ws' := [(u10, .inl ((TY D)[1].1, 144, .inl (bf (upf E_ i_ true)))), (u11, .inl ((TY D)[0].1, 144, .inl (nf rw_))), (u0, .inr (9, [.ref u1, .ref u2, .ref u3, .ref u4, .ref u5, .ref u6, .int (nI kn), .ref u7, .int (bB ik), .ref u8, .int (nI ty), .ref u9, .int (nI ta), .int (bB iw), .ref u10, .ref u11])), (u4, .inl ((TY D)[0].1, 6912, .inl SWT)), (u5, .inl ((TY D)[0].1, 208, .inl M))]) O 0 rfl (by omega) (by omega) dX9_lines_30 (bf_updT _ _) rfl ?_
          refine g_iincN (L' := [(0, .ref u0), (1, .int (nI w)), (2, .int (nI 0)), (3, .int (nI (i_ + 1)))]) O dX9_lines_31 3 rfl (by decide) [1, 2, 3, 0] rfl ?_
          refine g_goto (tgt := 4) O dX9_lines_34 (by decide) ?_
          refine g_perm (ws' := [(u0, .inr (9, [.ref u1, .ref u2, .ref u3, .ref u4, .ref u5, .ref u6, .int (nI kn), .ref u7, .int (bB ik), .ref u8, .int (nI ty), .ref u9, .int (nI ta), .int (bB iw), .ref u10, .ref u11])), (u4, .inl ((TY D)[0].1, 6912, .inl SWT)), (u5, .inl ((TY D)[0].1, 208, .inl M)), (u10, .inl ((TY D)[1].1, 144, .inl (bf (upf E_ i_ true)))), (u11, .inl ((TY D)[0].1, 144, .inl (nf rw_)))]) [2, 3, 4, 0, 1] rfl (by decide) ?_
          exact ih_ (i_ + 1) _ (by first | assumption | omega | rfl) (fun j hj => by by_cases h : j = i_; (subst h; rw [upf_s]; simp_all); (rw [upf_n h]; exact hF j (by omega))) (by omega)
  exact J4 _ 0 _ (Nat.zero_le _) (fun j hj => absurd hj (Nat.not_lt_zero _)) (Nat.lt_succ_self _)

set_option maxHeartbeats 4000000 in
set_option maxRecDepth 100000 in
theorem kX9_way_b1 (l : Launch) (D : va_G) (z : Nat × Nat × Nat) (u0 : Nat) (u1 : Nat) (u2 : Nat) (u3 : Nat) (u4 : Nat) (u5 : Nat) (u6 : Nat) (u7 : Nat) (u8 : Nat) (u9 : Nat) (u10 : Nat) (u11 : Nat) (kn : Nat) (ik : Bool) (ty : Nat) (ta : Nat) (iw : Bool) (w : Int32) (k : Int32) (hb : rgB w 48 = false) : CM l yX9_way wsX9_way ({ frames := 4, cells := 0, slots := 0, locals := 92 } : Room) D z [.ref u0, .int w, .int k] [(u0, .inr (9, [.ref u1, .ref u2, .ref u3, .ref u4, .ref u5, .ref u6, .int (nI kn), .ref u7, .int (bB ik), .ref u8, .int (nI ty), .ref u9, .int (nI ta), .int (bB iw), .ref u10, .ref u11]))] (fun r_ w_ => r_ = some (.int (-1)) ∧ w_ = [(u0, .inr (9, [.ref u1, .ref u2, .ref u3, .ref u4, .ref u5, .ref u6, .int (nI kn), .ref u7, .int (bB ik), .ref u8, .int (nI ty), .ref u9, .int (nI ta), .int (bB iw), .ref u10, .ref u11]))]) 0 0 := by
  refine CM_int (own := RX9) (cc := cX9_way) (maxL := 3) (L0 := [(0, .ref u0), (1, .int w), (2, .int k)]) (by decide) rfl rfl (Nat.le_of_ble_eq_true rfl) rfl (fun X O E => ?_)
  refine g_iload_n O dX9_way_0 1 rfl rfl ?_
  refine g_callS (As := [.int w]) (wr := [(u0, .inr (9, [.ref u1, .ref u2, .ref u3, .ref u4, .ref u5, .ref u6, .int (nI kn), .ref u7, .int (bB ik), .ref u8, .int (nI ty), .ref u9, .int (nI ta), .int (bB iw), .ref u10, .ref u11]))]) O (kX9_isWay l D z w ) gX9_way_X9_isWay rfl rfl rfl 1 (by decide +kernel) (by decide) (by decide) [] [0] rfl (by decide) rfl (by decide) (by decide) rfl rfl (Nat.le_of_ble_eq_true rfl) dX9_way_1 (fun r_1 w_2 hp => ?_)
  obtain ⟨rfl, rfl⟩ := hp
  refine g_eq (st' := [.int (bB (rgB w 48))]) (ws' := [(u0, .inr (9, [.ref u1, .ref u2, .ref u3, .ref u4, .ref u5, .ref u6, .int (nI kn), .ref u7, .int (bB ik), .ref u8, .int (nI ty), .ref u9, .int (nI ta), .int (bB iw), .ref u10, .ref u11]))]) rfl rfl rfl ?_
  refine g_if_neB (tgt := 9) O dX9_way_4 (by decide) (fun c_3 => absurd c_3 (by rw [hb]; decide)) (fun c_3 => ?_)
  refine g_iconst (x := (-1)) O dX9_way_7 (by decide +kernel) ?_
  exact E 8 _ (-1) _ dX9_way_8 ⟨rfl, rfl⟩

set_option maxHeartbeats 4000000 in
set_option maxRecDepth 100000 in
theorem kX9_way_b2 (l : Launch) (D : va_G) (z : Nat × Nat × Nat) (u0 : Nat) (u1 : Nat) (u2 : Nat) (u3 : Nat) (u4 : Nat) (u5 : Nat) (u6 : Nat) (u7 : Nat) (u8 : Nat) (u9 : Nat) (u10 : Nat) (u11 : Nat) (kn : Nat) (ik : Bool) (ty : Nat) (ta : Nat) (iw : Bool) (w : Nat) (k : Int32) (hw : w < 48) (hsw : k < 0 ∨ nI 8 ≤ k) : CM l yX9_way wsX9_way ({ frames := 4, cells := 0, slots := 0, locals := 92 } : Room) D z [.ref u0, .int (nI w), .int k] [(u0, .inr (9, [.ref u1, .ref u2, .ref u3, .ref u4, .ref u5, .ref u6, .int (nI kn), .ref u7, .int (bB ik), .ref u8, .int (nI ty), .ref u9, .int (nI ta), .int (bB iw), .ref u10, .ref u11]))] (fun r_ w_ => r_ = some (.int (-2)) ∧ w_ = [(u0, .inr (9, [.ref u1, .ref u2, .ref u3, .ref u4, .ref u5, .ref u6, .int (nI kn), .ref u7, .int (bB ik), .ref u8, .int (nI ty), .ref u9, .int (nI ta), .int (bB iw), .ref u10, .ref u11]))]) 0 0 := by
  refine CM_int (own := RX9) (cc := cX9_way) (maxL := 3) (L0 := [(0, .ref u0), (1, .int (nI w)), (2, .int k)]) (by decide) rfl rfl (Nat.le_of_ble_eq_true rfl) rfl (fun X O E => ?_)
  refine g_iload_n O dX9_way_0 1 rfl rfl ?_
  refine g_callS (As := [.int (nI w)]) (wr := [(u0, .inr (9, [.ref u1, .ref u2, .ref u3, .ref u4, .ref u5, .ref u6, .int (nI kn), .ref u7, .int (bB ik), .ref u8, .int (nI ty), .ref u9, .int (nI ta), .int (bB iw), .ref u10, .ref u11]))]) O (kX9_isWay l D z (nI w) ) gX9_way_X9_isWay rfl rfl rfl 1 (by decide +kernel) (by decide) (by decide) [] [0] rfl (by decide) rfl (by decide) (by decide) rfl rfl (Nat.le_of_ble_eq_true rfl) dX9_way_1 (fun r_1 w_2 hp => ?_)
  obtain ⟨rfl, rfl⟩ := hp
  refine g_eq (st' := [.int (bB (rgB (nI w) 48))]) (ws' := [(u0, .inr (9, [.ref u1, .ref u2, .ref u3, .ref u4, .ref u5, .ref u6, .int (nI kn), .ref u7, .int (bB ik), .ref u8, .int (nI ty), .ref u9, .int (nI ta), .int (bB iw), .ref u10, .ref u11]))]) rfl rfl rfl ?_
  refine g_if_neB (tgt := 9) O dX9_way_4 (by decide) (fun c_3 => ?_) (fun c_3 => absurd c_3 (by rw [rgB_t hw (by decide)]; decide))
  refine g_iload_n O dX9_way_9 2 rfl rfl ?_
  refine g_tableO (tgt := 110) (N := 8) O dX9_way_10 hsw (by decide) (by decide) (by decide) ?_
  refine g_bipush (x := (-2)) O dX9_way_110 (by decide +kernel) ?_
  exact E 112 _ (-2) _ dX9_way_112 ⟨rfl, rfl⟩

theorem hiX9_way_X9 : ∀ w ∈ wsX90, w ∈ wsX9_way := by decide +kernel
set_option maxHeartbeats 4000000 in
set_option maxRecDepth 100000 in
theorem kX9_way_0 (l : Launch) (D : va_G) (z : Nat × Nat × Nat) (u0 : Nat) (u1 : Nat) (u2 : Nat) (u3 : Nat) (u4 : Nat) (u5 : Nat) (u6 : Nat) (u7 : Nat) (u8 : Nat) (u9 : Nat) (u10 : Nat) (u11 : Nat) (kn : Nat) (ik : Bool) (ty : Nat) (ta : Nat) (iw : Bool) (w : Nat) (hw : w < 48) : CM l yX9_way wsX9_way ({ frames := 4, cells := 0, slots := 0, locals := 92 } : Room) D z [.ref u0, .int (nI w), .int (nI 0)] [(u0, .inr (9, [.ref u1, .ref u2, .ref u3, .ref u4, .ref u5, .ref u6, .int (nI kn), .ref u7, .int (bB ik), .ref u8, .int (nI ty), .ref u9, .int (nI ta), .int (bB iw), .ref u10, .ref u11])), (u1, .inl ((TY D)[0].1, 48, .inl (nf tM))), (u2, .inl ((TY D)[0].1, 48, .inl (nf tN))), (u3, .inl ((TY D)[0].1, 48, .inl (nf tS)))] (fun r_ w_ => r_ = some (.int (nI (tM w))) ∧ w_ = [(u0, .inr (9, [.ref u1, .ref u2, .ref u3, .ref u4, .ref u5, .ref u6, .int (nI kn), .ref u7, .int (bB ik), .ref u8, .int (nI ty), .ref u9, .int (nI ta), .int (bB iw), .ref u10, .ref u11])), (u1, .inl ((TY D)[0].1, 48, .inl (nf tM))), (u2, .inl ((TY D)[0].1, 48, .inl (nf tN))), (u3, .inl ((TY D)[0].1, 48, .inl (nf tS)))]) 0 0 := by
  refine CM_int (own := RX9) (cc := cX9_way) (maxL := 3) (L0 := [(0, .ref u0), (1, .int (nI w)), (2, .int (nI 0))]) (by decide) rfl rfl (Nat.le_of_ble_eq_true rfl) rfl (fun X O E => ?_)
  refine g_iload_n O dX9_way_0 1 rfl rfl ?_
  refine g_callS (As := [.int (nI w)]) (wr := [(u0, .inr (9, [.ref u1, .ref u2, .ref u3, .ref u4, .ref u5, .ref u6, .int (nI kn), .ref u7, .int (bB ik), .ref u8, .int (nI ty), .ref u9, .int (nI ta), .int (bB iw), .ref u10, .ref u11])), (u1, .inl ((TY D)[0].1, 48, .inl (nf tM))), (u2, .inl ((TY D)[0].1, 48, .inl (nf tN))), (u3, .inl ((TY D)[0].1, 48, .inl (nf tS)))]) O (kX9_isWay l D z (nI w) ) gX9_way_X9_isWay rfl rfl rfl 1 (by decide +kernel) (by decide) (by decide) [] [0, 1, 2, 3] rfl (by decide) rfl (by decide) (by decide) rfl rfl (Nat.le_of_ble_eq_true rfl) dX9_way_1 (fun r_1 w_2 hp => ?_)
  obtain ⟨rfl, rfl⟩ := hp
  refine g_eq (st' := [.int (bB (rgB (nI w) 48))]) (ws' := [(u0, .inr (9, [.ref u1, .ref u2, .ref u3, .ref u4, .ref u5, .ref u6, .int (nI kn), .ref u7, .int (bB ik), .ref u8, .int (nI ty), .ref u9, .int (nI ta), .int (bB iw), .ref u10, .ref u11])), (u1, .inl ((TY D)[0].1, 48, .inl (nf tM))), (u2, .inl ((TY D)[0].1, 48, .inl (nf tN))), (u3, .inl ((TY D)[0].1, 48, .inl (nf tS)))]) rfl rfl rfl ?_
  refine g_if_neB (tgt := 9) O dX9_way_4 (by decide) (fun c_3 => ?_) (fun c_3 => absurd c_3 (by rw [rgB_t hw (by decide)]; decide))
  refine g_iload_n O dX9_way_9 2 rfl rfl ?_
  refine g_tableIn (off := 46) (tgt := 56) O dX9_way_10 (by decide +kernel) (by decide +kernel) (by decide +kernel) (by decide) ?_
  refine g_aload_n O dX9_way_56 0 rfl rfl ?_
  refine g_get O hiX9_way_X9 0 rfl rfl 0 (by decide) (by decide +kernel) rfl dX9_way_57 ?_
  refine g_iload_n O dX9_way_60 1 rfl rfl ?_
  refine g_ialdN O 1 rfl (by omega) (by omega) dX9_way_61 ?_
  exact E 62 _ (nI (tM w)) _ dX9_way_62 ⟨rfl, rfl⟩

set_option maxHeartbeats 4000000 in
set_option maxRecDepth 100000 in
theorem kX9_way_1 (l : Launch) (D : va_G) (z : Nat × Nat × Nat) (u0 : Nat) (u1 : Nat) (u2 : Nat) (u3 : Nat) (u4 : Nat) (u5 : Nat) (u6 : Nat) (u7 : Nat) (u8 : Nat) (u9 : Nat) (u10 : Nat) (u11 : Nat) (kn : Nat) (ik : Bool) (ty : Nat) (ta : Nat) (iw : Bool) (w : Nat) (hw : w < 48) : CM l yX9_way wsX9_way ({ frames := 4, cells := 0, slots := 0, locals := 92 } : Room) D z [.ref u0, .int (nI w), .int (nI 1)] [(u0, .inr (9, [.ref u1, .ref u2, .ref u3, .ref u4, .ref u5, .ref u6, .int (nI kn), .ref u7, .int (bB ik), .ref u8, .int (nI ty), .ref u9, .int (nI ta), .int (bB iw), .ref u10, .ref u11])), (u1, .inl ((TY D)[0].1, 48, .inl (nf tM))), (u2, .inl ((TY D)[0].1, 48, .inl (nf tN))), (u3, .inl ((TY D)[0].1, 48, .inl (nf tS)))] (fun r_ w_ => r_ = some (.int (nI (tN w))) ∧ w_ = [(u0, .inr (9, [.ref u1, .ref u2, .ref u3, .ref u4, .ref u5, .ref u6, .int (nI kn), .ref u7, .int (bB ik), .ref u8, .int (nI ty), .ref u9, .int (nI ta), .int (bB iw), .ref u10, .ref u11])), (u1, .inl ((TY D)[0].1, 48, .inl (nf tM))), (u2, .inl ((TY D)[0].1, 48, .inl (nf tN))), (u3, .inl ((TY D)[0].1, 48, .inl (nf tS)))]) 0 0 := by
  refine CM_int (own := RX9) (cc := cX9_way) (maxL := 3) (L0 := [(0, .ref u0), (1, .int (nI w)), (2, .int (nI 1))]) (by decide) rfl rfl (Nat.le_of_ble_eq_true rfl) rfl (fun X O E => ?_)
  refine g_iload_n O dX9_way_0 1 rfl rfl ?_
  refine g_callS (As := [.int (nI w)]) (wr := [(u0, .inr (9, [.ref u1, .ref u2, .ref u3, .ref u4, .ref u5, .ref u6, .int (nI kn), .ref u7, .int (bB ik), .ref u8, .int (nI ty), .ref u9, .int (nI ta), .int (bB iw), .ref u10, .ref u11])), (u1, .inl ((TY D)[0].1, 48, .inl (nf tM))), (u2, .inl ((TY D)[0].1, 48, .inl (nf tN))), (u3, .inl ((TY D)[0].1, 48, .inl (nf tS)))]) O (kX9_isWay l D z (nI w) ) gX9_way_X9_isWay rfl rfl rfl 1 (by decide +kernel) (by decide) (by decide) [] [0, 1, 2, 3] rfl (by decide) rfl (by decide) (by decide) rfl rfl (Nat.le_of_ble_eq_true rfl) dX9_way_1 (fun r_1 w_2 hp => ?_)
  obtain ⟨rfl, rfl⟩ := hp
  refine g_eq (st' := [.int (bB (rgB (nI w) 48))]) (ws' := [(u0, .inr (9, [.ref u1, .ref u2, .ref u3, .ref u4, .ref u5, .ref u6, .int (nI kn), .ref u7, .int (bB ik), .ref u8, .int (nI ty), .ref u9, .int (nI ta), .int (bB iw), .ref u10, .ref u11])), (u1, .inl ((TY D)[0].1, 48, .inl (nf tM))), (u2, .inl ((TY D)[0].1, 48, .inl (nf tN))), (u3, .inl ((TY D)[0].1, 48, .inl (nf tS)))]) rfl rfl rfl ?_
  refine g_if_neB (tgt := 9) O dX9_way_4 (by decide) (fun c_3 => ?_) (fun c_3 => absurd c_3 (by rw [rgB_t hw (by decide)]; decide))
  refine g_iload_n O dX9_way_9 2 rfl rfl ?_
  refine g_tableIn (off := 53) (tgt := 63) O dX9_way_10 (by decide +kernel) (by decide +kernel) (by decide +kernel) (by decide) ?_
  refine g_aload_n O dX9_way_63 0 rfl rfl ?_
  refine g_get O hiX9_way_X9 0 rfl rfl 1 (by decide) (by decide +kernel) rfl dX9_way_64 ?_
  refine g_iload_n O dX9_way_67 1 rfl rfl ?_
  refine g_ialdN O 2 rfl (by omega) (by omega) dX9_way_68 ?_
  exact E 69 _ (nI (tN w)) _ dX9_way_69 ⟨rfl, rfl⟩

set_option maxHeartbeats 4000000 in
set_option maxRecDepth 100000 in
theorem kX9_way_2 (l : Launch) (D : va_G) (z : Nat × Nat × Nat) (u0 : Nat) (u1 : Nat) (u2 : Nat) (u3 : Nat) (u4 : Nat) (u5 : Nat) (u6 : Nat) (u7 : Nat) (u8 : Nat) (u9 : Nat) (u10 : Nat) (u11 : Nat) (kn : Nat) (ik : Bool) (ty : Nat) (ta : Nat) (iw : Bool) (w : Nat) (hw : w < 48) : CM l yX9_way wsX9_way ({ frames := 4, cells := 0, slots := 0, locals := 92 } : Room) D z [.ref u0, .int (nI w), .int (nI 2)] [(u0, .inr (9, [.ref u1, .ref u2, .ref u3, .ref u4, .ref u5, .ref u6, .int (nI kn), .ref u7, .int (bB ik), .ref u8, .int (nI ty), .ref u9, .int (nI ta), .int (bB iw), .ref u10, .ref u11])), (u1, .inl ((TY D)[0].1, 48, .inl (nf tM))), (u2, .inl ((TY D)[0].1, 48, .inl (nf tN))), (u3, .inl ((TY D)[0].1, 48, .inl (nf tS)))] (fun r_ w_ => r_ = some (.int (nI (tS w))) ∧ w_ = [(u0, .inr (9, [.ref u1, .ref u2, .ref u3, .ref u4, .ref u5, .ref u6, .int (nI kn), .ref u7, .int (bB ik), .ref u8, .int (nI ty), .ref u9, .int (nI ta), .int (bB iw), .ref u10, .ref u11])), (u1, .inl ((TY D)[0].1, 48, .inl (nf tM))), (u2, .inl ((TY D)[0].1, 48, .inl (nf tN))), (u3, .inl ((TY D)[0].1, 48, .inl (nf tS)))]) 0 0 := by
  refine CM_int (own := RX9) (cc := cX9_way) (maxL := 3) (L0 := [(0, .ref u0), (1, .int (nI w)), (2, .int (nI 2))]) (by decide) rfl rfl (Nat.le_of_ble_eq_true rfl) rfl (fun X O E => ?_)
  refine g_iload_n O dX9_way_0 1 rfl rfl ?_
  refine g_callS (As := [.int (nI w)]) (wr := [(u0, .inr (9, [.ref u1, .ref u2, .ref u3, .ref u4, .ref u5, .ref u6, .int (nI kn), .ref u7, .int (bB ik), .ref u8, .int (nI ty), .ref u9, .int (nI ta), .int (bB iw), .ref u10, .ref u11])), (u1, .inl ((TY D)[0].1, 48, .inl (nf tM))), (u2, .inl ((TY D)[0].1, 48, .inl (nf tN))), (u3, .inl ((TY D)[0].1, 48, .inl (nf tS)))]) O (kX9_isWay l D z (nI w) ) gX9_way_X9_isWay rfl rfl rfl 1 (by decide +kernel) (by decide) (by decide) [] [0, 1, 2, 3] rfl (by decide) rfl (by decide) (by decide) rfl rfl (Nat.le_of_ble_eq_true rfl) dX9_way_1 (fun r_1 w_2 hp => ?_)
  obtain ⟨rfl, rfl⟩ := hp
  refine g_eq (st' := [.int (bB (rgB (nI w) 48))]) (ws' := [(u0, .inr (9, [.ref u1, .ref u2, .ref u3, .ref u4, .ref u5, .ref u6, .int (nI kn), .ref u7, .int (bB ik), .ref u8, .int (nI ty), .ref u9, .int (nI ta), .int (bB iw), .ref u10, .ref u11])), (u1, .inl ((TY D)[0].1, 48, .inl (nf tM))), (u2, .inl ((TY D)[0].1, 48, .inl (nf tN))), (u3, .inl ((TY D)[0].1, 48, .inl (nf tS)))]) rfl rfl rfl ?_
  refine g_if_neB (tgt := 9) O dX9_way_4 (by decide) (fun c_3 => ?_) (fun c_3 => absurd c_3 (by rw [rgB_t hw (by decide)]; decide))
  refine g_iload_n O dX9_way_9 2 rfl rfl ?_
  refine g_tableIn (off := 60) (tgt := 70) O dX9_way_10 (by decide +kernel) (by decide +kernel) (by decide +kernel) (by decide) ?_
  refine g_aload_n O dX9_way_70 0 rfl rfl ?_
  refine g_get O hiX9_way_X9 0 rfl rfl 2 (by decide) (by decide +kernel) rfl dX9_way_71 ?_
  refine g_iload_n O dX9_way_74 1 rfl rfl ?_
  refine g_ialdN O 3 rfl (by omega) (by omega) dX9_way_75 ?_
  exact E 76 _ (nI (tS w)) _ dX9_way_76 ⟨rfl, rfl⟩

set_option maxHeartbeats 4000000 in
set_option maxRecDepth 100000 in
theorem kX9_way_3 (l : Launch) (D : va_G) (z : Nat × Nat × Nat) (u0 : Nat) (u1 : Nat) (u2 : Nat) (u3 : Nat) (u4 : Nat) (u5 : Nat) (u6 : Nat) (u7 : Nat) (u8 : Nat) (u9 : Nat) (u10 : Nat) (u11 : Nat) (kn : Nat) (ik : Bool) (ty : Nat) (ta : Nat) (iw : Bool) (w : Nat) (hw : w < 48) : CM l yX9_way wsX9_way ({ frames := 4, cells := 0, slots := 0, locals := 92 } : Room) D z [.ref u0, .int (nI w), .int (nI 3)] [(u0, .inr (9, [.ref u1, .ref u2, .ref u3, .ref u4, .ref u5, .ref u6, .int (nI kn), .ref u7, .int (bB ik), .ref u8, .int (nI ty), .ref u9, .int (nI ta), .int (bB iw), .ref u10, .ref u11])), (u1, .inl ((TY D)[0].1, 48, .inl (nf tM))), (u2, .inl ((TY D)[0].1, 48, .inl (nf tN))), (u3, .inl ((TY D)[0].1, 48, .inl (nf tS)))] (fun r_ w_ => r_ = some (.int (nI (10 * (tM w * tM w + tN w * tN w) + tS w))) ∧ w_ = [(u0, .inr (9, [.ref u1, .ref u2, .ref u3, .ref u4, .ref u5, .ref u6, .int (nI kn), .ref u7, .int (bB ik), .ref u8, .int (nI ty), .ref u9, .int (nI ta), .int (bB iw), .ref u10, .ref u11])), (u1, .inl ((TY D)[0].1, 48, .inl (nf tM))), (u2, .inl ((TY D)[0].1, 48, .inl (nf tN))), (u3, .inl ((TY D)[0].1, 48, .inl (nf tS)))]) 0 0 := by
  refine CM_int (own := RX9) (cc := cX9_way) (maxL := 3) (L0 := [(0, .ref u0), (1, .int (nI w)), (2, .int (nI 3))]) (by decide) rfl rfl (Nat.le_of_ble_eq_true rfl) rfl (fun X O E => ?_)
  refine g_iload_n O dX9_way_0 1 rfl rfl ?_
  refine g_callS (As := [.int (nI w)]) (wr := [(u0, .inr (9, [.ref u1, .ref u2, .ref u3, .ref u4, .ref u5, .ref u6, .int (nI kn), .ref u7, .int (bB ik), .ref u8, .int (nI ty), .ref u9, .int (nI ta), .int (bB iw), .ref u10, .ref u11])), (u1, .inl ((TY D)[0].1, 48, .inl (nf tM))), (u2, .inl ((TY D)[0].1, 48, .inl (nf tN))), (u3, .inl ((TY D)[0].1, 48, .inl (nf tS)))]) O (kX9_isWay l D z (nI w) ) gX9_way_X9_isWay rfl rfl rfl 1 (by decide +kernel) (by decide) (by decide) [] [0, 1, 2, 3] rfl (by decide) rfl (by decide) (by decide) rfl rfl (Nat.le_of_ble_eq_true rfl) dX9_way_1 (fun r_1 w_2 hp => ?_)
  obtain ⟨rfl, rfl⟩ := hp
  refine g_eq (st' := [.int (bB (rgB (nI w) 48))]) (ws' := [(u0, .inr (9, [.ref u1, .ref u2, .ref u3, .ref u4, .ref u5, .ref u6, .int (nI kn), .ref u7, .int (bB ik), .ref u8, .int (nI ty), .ref u9, .int (nI ta), .int (bB iw), .ref u10, .ref u11])), (u1, .inl ((TY D)[0].1, 48, .inl (nf tM))), (u2, .inl ((TY D)[0].1, 48, .inl (nf tN))), (u3, .inl ((TY D)[0].1, 48, .inl (nf tS)))]) rfl rfl rfl ?_
  refine g_if_neB (tgt := 9) O dX9_way_4 (by decide) (fun c_3 => ?_) (fun c_3 => absurd c_3 (by rw [rgB_t hw (by decide)]; decide))
  refine g_iload_n O dX9_way_9 2 rfl rfl ?_
  refine g_tableIn (off := 67) (tgt := 77) O dX9_way_10 (by decide +kernel) (by decide +kernel) (by decide +kernel) (by decide) ?_
  refine g_aload_n O dX9_way_77 0 rfl rfl ?_
  refine g_iload_n O dX9_way_78 1 rfl rfl ?_
  refine g_callV (As := [.int (nI w)]) (wr := []) O (kX9_noteOf l D z u0 u1 u2 u3 u4 u5 u6 u7 u8 u9 u10 u11 kn ik ty ta iw w (by first | assumption | omega)) gX9_way_X9_noteOf rfl rfl rfl 1 (by decide +kernel) (by decide) (by decide) (q0 := 0) rfl rfl rfl [0, 1, 2, 3] [] rfl (by decide) rfl (by decide) (by decide) rfl rfl (Nat.le_of_ble_eq_true rfl) dX9_way_79 (fun r_4 w_5 hp => ?_)
  obtain ⟨rfl, rfl⟩ := hp
  refine g_eq (st' := [.int (nI (10 * (tM w * tM w + tN w * tN w) + tS w))]) (ws' := [(u0, .inr (9, [.ref u1, .ref u2, .ref u3, .ref u4, .ref u5, .ref u6, .int (nI kn), .ref u7, .int (bB ik), .ref u8, .int (nI ty), .ref u9, .int (nI ta), .int (bB iw), .ref u10, .ref u11])), (u1, .inl ((TY D)[0].1, 48, .inl (nf tM))), (u2, .inl ((TY D)[0].1, 48, .inl (nf tN))), (u3, .inl ((TY D)[0].1, 48, .inl (nf tS)))]) rfl rfl rfl ?_
  exact E 82 _ (nI (10 * (tM w * tM w + tN w * tN w) + tS w)) _ dX9_way_82 ⟨rfl, rfl⟩

set_option maxHeartbeats 4000000 in
set_option maxRecDepth 100000 in
theorem kX9_way_4 (l : Launch) (D : va_G) (z : Nat × Nat × Nat) (u0 : Nat) (u1 : Nat) (u2 : Nat) (u3 : Nat) (u4 : Nat) (u5 : Nat) (u6 : Nat) (u7 : Nat) (u8 : Nat) (u9 : Nat) (u10 : Nat) (u11 : Nat) (kn : Nat) (ik : Bool) (ty : Nat) (ta : Nat) (iw : Bool) (M : Nat → Int32) (s : SV) (w : Nat) (hw : w < 48) (hM : RM M s) : CM l yX9_way wsX9_way ({ frames := 4, cells := 0, slots := 0, locals := 92 } : Room) D z [.ref u0, .int (nI w), .int (nI 4)] [(u0, .inr (9, [.ref u1, .ref u2, .ref u3, .ref u4, .ref u5, .ref u6, .int (nI kn), .ref u7, .int (bB ik), .ref u8, .int (nI ty), .ref u9, .int (nI ta), .int (bB iw), .ref u10, .ref u11])), (u4, .inl ((TY D)[0].1, 6912, .inl SWT)), (u5, .inl ((TY D)[0].1, 208, .inl M))] (fun r_ w_ => r_ = some (.int (nI (cntB (fun p => stB s w p) 144))) ∧ w_ = [(u0, .inr (9, [.ref u1, .ref u2, .ref u3, .ref u4, .ref u5, .ref u6, .int (nI kn), .ref u7, .int (bB ik), .ref u8, .int (nI ty), .ref u9, .int (nI ta), .int (bB iw), .ref u10, .ref u11])), (u4, .inl ((TY D)[0].1, 6912, .inl SWT)), (u5, .inl ((TY D)[0].1, 208, .inl M))]) 0 0 := by
  refine CM_int (own := RX9) (cc := cX9_way) (maxL := 3) (L0 := [(0, .ref u0), (1, .int (nI w)), (2, .int (nI 4))]) (by decide) rfl rfl (Nat.le_of_ble_eq_true rfl) rfl (fun X O E => ?_)
  refine g_iload_n O dX9_way_0 1 rfl rfl ?_
  refine g_callS (As := [.int (nI w)]) (wr := [(u0, .inr (9, [.ref u1, .ref u2, .ref u3, .ref u4, .ref u5, .ref u6, .int (nI kn), .ref u7, .int (bB ik), .ref u8, .int (nI ty), .ref u9, .int (nI ta), .int (bB iw), .ref u10, .ref u11])), (u4, .inl ((TY D)[0].1, 6912, .inl SWT)), (u5, .inl ((TY D)[0].1, 208, .inl M))]) O (kX9_isWay l D z (nI w) ) gX9_way_X9_isWay rfl rfl rfl 1 (by decide +kernel) (by decide) (by decide) [] [0, 1, 2] rfl (by decide) rfl (by decide) (by decide) rfl rfl (Nat.le_of_ble_eq_true rfl) dX9_way_1 (fun r_1 w_2 hp => ?_)
  obtain ⟨rfl, rfl⟩ := hp
  refine g_eq (st' := [.int (bB (rgB (nI w) 48))]) (ws' := [(u0, .inr (9, [.ref u1, .ref u2, .ref u3, .ref u4, .ref u5, .ref u6, .int (nI kn), .ref u7, .int (bB ik), .ref u8, .int (nI ty), .ref u9, .int (nI ta), .int (bB iw), .ref u10, .ref u11])), (u4, .inl ((TY D)[0].1, 6912, .inl SWT)), (u5, .inl ((TY D)[0].1, 208, .inl M))]) rfl rfl rfl ?_
  refine g_if_neB (tgt := 9) O dX9_way_4 (by decide) (fun c_3 => ?_) (fun c_3 => absurd c_3 (by rw [rgB_t hw (by decide)]; decide))
  refine g_iload_n O dX9_way_9 2 rfl rfl ?_
  refine g_tableIn (off := 73) (tgt := 83) O dX9_way_10 (by decide +kernel) (by decide +kernel) (by decide +kernel) (by decide) ?_
  refine g_aload_n O dX9_way_83 0 rfl rfl ?_
  refine g_iload_n O dX9_way_84 1 rfl rfl ?_
  refine g_iload_n O dX9_way_85 2 rfl rfl ?_
  refine g_callV (As := [.int (nI w), .int (nI 4)]) (wr := []) O (kX9_still4 l D z u0 u1 u2 u3 u4 u5 u6 u7 u8 u9 u10 u11 kn ik ty ta iw M s w (by first | assumption | omega) (by first | assumption | omega)) gX9_way_X9_still rfl rfl rfl 2 (by decide +kernel) (by decide) (by decide) (q0 := 0) rfl rfl rfl [0, 1, 2] [] rfl (by decide) rfl (by decide) (by decide) rfl rfl (Nat.le_of_ble_eq_true rfl) dX9_way_86 (fun r_4 w_5 hp => ?_)
  obtain ⟨rfl, rfl⟩ := hp
  refine g_eq (st' := [.int (nI (cntB (fun p => stB s w p) 144))]) (ws' := [(u0, .inr (9, [.ref u1, .ref u2, .ref u3, .ref u4, .ref u5, .ref u6, .int (nI kn), .ref u7, .int (bB ik), .ref u8, .int (nI ty), .ref u9, .int (nI ta), .int (bB iw), .ref u10, .ref u11])), (u4, .inl ((TY D)[0].1, 6912, .inl SWT)), (u5, .inl ((TY D)[0].1, 208, .inl M))]) rfl rfl rfl ?_
  exact E 89 _ (nI (cntB (fun p => stB s w p) 144)) _ dX9_way_89 ⟨rfl, rfl⟩

set_option maxHeartbeats 4000000 in
set_option maxRecDepth 100000 in
theorem kX9_way_6 (l : Launch) (D : va_G) (z : Nat × Nat × Nat) (u0 : Nat) (u1 : Nat) (u2 : Nat) (u3 : Nat) (u4 : Nat) (u5 : Nat) (u6 : Nat) (u7 : Nat) (u8 : Nat) (u9 : Nat) (u10 : Nat) (u11 : Nat) (kn : Nat) (ik : Bool) (ty : Nat) (ta : Nat) (iw : Bool) (M : Nat → Int32) (s : SV) (w : Nat) (hw : w < 48) (hM : RM M s) : CM l yX9_way wsX9_way ({ frames := 4, cells := 0, slots := 0, locals := 92 } : Room) D z [.ref u0, .int (nI w), .int (nI 6)] [(u0, .inr (9, [.ref u1, .ref u2, .ref u3, .ref u4, .ref u5, .ref u6, .int (nI kn), .ref u7, .int (bB ik), .ref u8, .int (nI ty), .ref u9, .int (nI ta), .int (bB iw), .ref u10, .ref u11])), (u4, .inl ((TY D)[0].1, 6912, .inl SWT)), (u5, .inl ((TY D)[0].1, 208, .inl M))] (fun r_ w_ => r_ = some (.int (nI (gsN s w 144))) ∧ w_ = [(u0, .inr (9, [.ref u1, .ref u2, .ref u3, .ref u4, .ref u5, .ref u6, .int (nI kn), .ref u7, .int (bB ik), .ref u8, .int (nI ty), .ref u9, .int (nI ta), .int (bB iw), .ref u10, .ref u11])), (u4, .inl ((TY D)[0].1, 6912, .inl SWT)), (u5, .inl ((TY D)[0].1, 208, .inl M))]) 0 0 := by
  refine CM_int (own := RX9) (cc := cX9_way) (maxL := 3) (L0 := [(0, .ref u0), (1, .int (nI w)), (2, .int (nI 6))]) (by decide) rfl rfl (Nat.le_of_ble_eq_true rfl) rfl (fun X O E => ?_)
  refine g_iload_n O dX9_way_0 1 rfl rfl ?_
  refine g_callS (As := [.int (nI w)]) (wr := [(u0, .inr (9, [.ref u1, .ref u2, .ref u3, .ref u4, .ref u5, .ref u6, .int (nI kn), .ref u7, .int (bB ik), .ref u8, .int (nI ty), .ref u9, .int (nI ta), .int (bB iw), .ref u10, .ref u11])), (u4, .inl ((TY D)[0].1, 6912, .inl SWT)), (u5, .inl ((TY D)[0].1, 208, .inl M))]) O (kX9_isWay l D z (nI w) ) gX9_way_X9_isWay rfl rfl rfl 1 (by decide +kernel) (by decide) (by decide) [] [0, 1, 2] rfl (by decide) rfl (by decide) (by decide) rfl rfl (Nat.le_of_ble_eq_true rfl) dX9_way_1 (fun r_1 w_2 hp => ?_)
  obtain ⟨rfl, rfl⟩ := hp
  refine g_eq (st' := [.int (bB (rgB (nI w) 48))]) (ws' := [(u0, .inr (9, [.ref u1, .ref u2, .ref u3, .ref u4, .ref u5, .ref u6, .int (nI kn), .ref u7, .int (bB ik), .ref u8, .int (nI ty), .ref u9, .int (nI ta), .int (bB iw), .ref u10, .ref u11])), (u4, .inl ((TY D)[0].1, 6912, .inl SWT)), (u5, .inl ((TY D)[0].1, 208, .inl M))]) rfl rfl rfl ?_
  refine g_if_neB (tgt := 9) O dX9_way_4 (by decide) (fun c_3 => ?_) (fun c_3 => absurd c_3 (by rw [rgB_t hw (by decide)]; decide))
  refine g_iload_n O dX9_way_9 2 rfl rfl ?_
  refine g_tableIn (off := 73) (tgt := 83) O dX9_way_10 (by decide +kernel) (by decide +kernel) (by decide +kernel) (by decide) ?_
  refine g_aload_n O dX9_way_83 0 rfl rfl ?_
  refine g_iload_n O dX9_way_84 1 rfl rfl ?_
  refine g_iload_n O dX9_way_85 2 rfl rfl ?_
  refine g_callV (As := [.int (nI w), .int (nI 6)]) (wr := []) O (kX9_still6 l D z u0 u1 u2 u3 u4 u5 u6 u7 u8 u9 u10 u11 kn ik ty ta iw M s w (by first | assumption | omega) (by first | assumption | omega)) gX9_way_X9_still rfl rfl rfl 2 (by decide +kernel) (by decide) (by decide) (q0 := 0) rfl rfl rfl [0, 1, 2] [] rfl (by decide) rfl (by decide) (by decide) rfl rfl (Nat.le_of_ble_eq_true rfl) dX9_way_86 (fun r_4 w_5 hp => ?_)
  obtain ⟨rfl, rfl⟩ := hp
  refine g_eq (st' := [.int (nI (gsN s w 144))]) (ws' := [(u0, .inr (9, [.ref u1, .ref u2, .ref u3, .ref u4, .ref u5, .ref u6, .int (nI kn), .ref u7, .int (bB ik), .ref u8, .int (nI ty), .ref u9, .int (nI ta), .int (bB iw), .ref u10, .ref u11])), (u4, .inl ((TY D)[0].1, 6912, .inl SWT)), (u5, .inl ((TY D)[0].1, 208, .inl M))]) rfl rfl rfl ?_
  exact E 89 _ (nI (gsN s w 144)) _ dX9_way_89 ⟨rfl, rfl⟩

set_option maxHeartbeats 4000000 in
set_option maxRecDepth 100000 in
/-- way 5 -/
theorem kX9_way_5 (l : Launch) (D : va_G) (z : Nat × Nat × Nat) (u0 : Nat) (u1 : Nat) (u2 : Nat) (u3 : Nat) (u4 : Nat) (u5 : Nat) (u6 : Nat) (u7 : Nat) (u8 : Nat) (u9 : Nat) (u10 : Nat) (u11 : Nat) (kn : Nat) (ik : Bool) (ty : Nat) (ta : Nat) (iw : Bool) (M : Nat → Int32) (s : SV) (me : Nat → Bool) (rw_ : Nat → Nat) (w : Nat) (hw : w < 48) (hM : RM M s) : CM l yX9_way wsX9_way ({ frames := 4, cells := 0, slots := 0, locals := 92 } : Room) D z [.ref u0, .int (nI w), .int (nI 5)] [(u0, .inr (9, [.ref u1, .ref u2, .ref u3, .ref u4, .ref u5, .ref u6, .int (nI kn), .ref u7, .int (bB ik), .ref u8, .int (nI ty), .ref u9, .int (nI ta), .int (bB iw), .ref u10, .ref u11])), (u4, .inl ((TY D)[0].1, 6912, .inl SWT)), (u5, .inl ((TY D)[0].1, 208, .inl M)), (u10, .inl ((TY D)[1].1, 144, .inl (bf me))), (u11, .inl ((TY D)[0].1, 144, .inl (nf rw_)))] (fun r_ w_ => ∃ (me9 : Nat → Bool), ∃ (rw9 : Nat → Nat), r_ = some (.int (nI ((lnF s w rw_ 0 144).2))) ∧ w_ = [(u0, .inr (9, [.ref u1, .ref u2, .ref u3, .ref u4, .ref u5, .ref u6, .int (nI kn), .ref u7, .int (bB ik), .ref u8, .int (nI ty), .ref u9, .int (nI ta), .int (bB iw), .ref u10, .ref u11])), (u4, .inl ((TY D)[0].1, 6912, .inl SWT)), (u5, .inl ((TY D)[0].1, 208, .inl M)), (u10, .inl ((TY D)[1].1, 144, .inl (bf me9))), (u11, .inl ((TY D)[0].1, 144, .inl (nf rw9)))]) 0 0 := by
  refine CM_int (own := RX9) (cc := cX9_way) (maxL := 3) (L0 := [(0, .ref u0), (1, .int (nI w)), (2, .int (nI 5))]) (by decide) rfl rfl (Nat.le_of_ble_eq_true rfl) rfl (fun X O E => ?_)
  refine g_iload_n O dX9_way_0 1 rfl rfl ?_
  refine g_callS (As := [.int (nI w)]) (wr := [(u0, .inr (9, [.ref u1, .ref u2, .ref u3, .ref u4, .ref u5, .ref u6, .int (nI kn), .ref u7, .int (bB ik), .ref u8, .int (nI ty), .ref u9, .int (nI ta), .int (bB iw), .ref u10, .ref u11])), (u4, .inl ((TY D)[0].1, 6912, .inl SWT)), (u5, .inl ((TY D)[0].1, 208, .inl M)), (u10, .inl ((TY D)[1].1, 144, .inl (bf me))), (u11, .inl ((TY D)[0].1, 144, .inl (nf rw_)))]) O (kX9_isWay l D z (nI w) ) gX9_way_X9_isWay rfl rfl rfl 1 (by decide +kernel) (by decide) (by decide) [] [0, 1, 2, 3, 4] rfl (by decide) rfl (by decide) (by decide) rfl rfl (Nat.le_of_ble_eq_true rfl) dX9_way_1 (fun r_1 w_2 hp => ?_)
  obtain ⟨rfl, rfl⟩ := hp
  refine g_eq (st' := [.int (bB (rgB (nI w) 48))]) (ws' := [(u0, .inr (9, [.ref u1, .ref u2, .ref u3, .ref u4, .ref u5, .ref u6, .int (nI kn), .ref u7, .int (bB ik), .ref u8, .int (nI ty), .ref u9, .int (nI ta), .int (bB iw), .ref u10, .ref u11])), (u4, .inl ((TY D)[0].1, 6912, .inl SWT)), (u5, .inl ((TY D)[0].1, 208, .inl M)), (u10, .inl ((TY D)[1].1, 144, .inl (bf me))), (u11, .inl ((TY D)[0].1, 144, .inl (nf rw_)))]) rfl rfl rfl ?_
  refine g_if_neB (tgt := 9) O dX9_way_4 (by decide) (fun c_3 => ?_) (fun c_3 => absurd c_3 (by rw [rgB_t hw (by decide)]; decide))
  refine g_iload_n O dX9_way_9 2 rfl rfl ?_
  refine g_tableIn (off := 80) (tgt := 90) O dX9_way_10 (by decide +kernel) (by decide +kernel) (by decide +kernel) (by decide) ?_
  refine g_aload_n O dX9_way_90 0 rfl rfl ?_
  refine g_iload_n O dX9_way_91 1 rfl rfl ?_
  refine g_callV (As := [.int (nI w)]) (wr := []) O (kX9_lines l D z u0 u1 u2 u3 u4 u5 u6 u7 u8 u9 u10 u11 kn ik ty ta iw M s me rw_ w (by first | assumption | omega) (by first | assumption | omega)) gX9_way_X9_lines rfl rfl rfl 1 (by decide +kernel) (by decide) (by decide) (q0 := 0) rfl rfl rfl [0, 1, 2, 3, 4] [] rfl (by decide) rfl (by decide) (by decide) rfl rfl (Nat.le_of_ble_eq_true rfl) dX9_way_92 (fun r_4 w_5 hp => ?_)
  obtain ⟨me9_6, rw9_7, rfl, rfl⟩ := hp
  refine g_eq (st' := [.int (nI ((lnF s w rw_ 0 144).2))]) (ws' := [(u0, .inr (9, [.ref u1, .ref u2, .ref u3, .ref u4, .ref u5, .ref u6, .int (nI kn), .ref u7, .int (bB ik), .ref u8, .int (nI ty), .ref u9, .int (nI ta), .int (bB iw), .ref u10, .ref u11])), (u4, .inl ((TY D)[0].1, 6912, .inl SWT)), (u5, .inl ((TY D)[0].1, 208, .inl M)), (u10, .inl ((TY D)[1].1, 144, .inl (bf me9_6))), (u11, .inl ((TY D)[0].1, 144, .inl (nf rw9_7)))]) rfl rfl rfl ?_
  exact E 95 _ (nI ((lnF s w rw_ 0 144).2)) _ dX9_way_95 (⟨_, _, rfl, rfl⟩)

set_option maxHeartbeats 4000000 in
set_option maxRecDepth 100000 in
theorem kX9_way_7 (l : Launch) (D : va_G) (z : Nat × Nat × Nat) (u0 : Nat) (u1 : Nat) (u2 : Nat) (u3 : Nat) (u4 : Nat) (u5 : Nat) (u6 : Nat) (u7 : Nat) (u8 : Nat) (u9 : Nat) (u10 : Nat) (u11 : Nat) (kn : Nat) (ik : Bool) (ty : Nat) (ta : Nat) (iw : Bool) (M : Nat → Int32) (s : SV) (w : Nat) (hw : w < 48) (hM : RM M s) (hnc : sv_nc s ≤ 4) (hcc : ∀ j, j < sv_nc s → sv_cc s j < 12 ∧ sv_cr s j < 12) : CM l yX9_way wsX9_way ({ frames := 4, cells := 0, slots := 0, locals := 92 } : Room) D z [.ref u0, .int (nI w), .int (nI 7)] [(u0, .inr (9, [.ref u1, .ref u2, .ref u3, .ref u4, .ref u5, .ref u6, .int (nI kn), .ref u7, .int (bB ik), .ref u8, .int (nI ty), .ref u9, .int (nI ta), .int (bB iw), .ref u10, .ref u11])), (u4, .inl ((TY D)[0].1, 6912, .inl SWT)), (u5, .inl ((TY D)[0].1, 208, .inl M))] (fun r_ w_ => r_ = some (.int (bB (clB s w))) ∧ w_ = [(u0, .inr (9, [.ref u1, .ref u2, .ref u3, .ref u4, .ref u5, .ref u6, .int (nI kn), .ref u7, .int (bB ik), .ref u8, .int (nI ty), .ref u9, .int (nI ta), .int (bB iw), .ref u10, .ref u11])), (u4, .inl ((TY D)[0].1, 6912, .inl SWT)), (u5, .inl ((TY D)[0].1, 208, .inl M))]) 0 0 := by
  refine CM_int (own := RX9) (cc := cX9_way) (maxL := 3) (L0 := [(0, .ref u0), (1, .int (nI w)), (2, .int (nI 7))]) (by decide) rfl rfl (Nat.le_of_ble_eq_true rfl) rfl (fun X O E => ?_)
  refine g_iload_n O dX9_way_0 1 rfl rfl ?_
  refine g_callS (As := [.int (nI w)]) (wr := [(u0, .inr (9, [.ref u1, .ref u2, .ref u3, .ref u4, .ref u5, .ref u6, .int (nI kn), .ref u7, .int (bB ik), .ref u8, .int (nI ty), .ref u9, .int (nI ta), .int (bB iw), .ref u10, .ref u11])), (u4, .inl ((TY D)[0].1, 6912, .inl SWT)), (u5, .inl ((TY D)[0].1, 208, .inl M))]) O (kX9_isWay l D z (nI w) ) gX9_way_X9_isWay rfl rfl rfl 1 (by decide +kernel) (by decide) (by decide) [] [0, 1, 2] rfl (by decide) rfl (by decide) (by decide) rfl rfl (Nat.le_of_ble_eq_true rfl) dX9_way_1 (fun r_1 w_2 hp => ?_)
  obtain ⟨rfl, rfl⟩ := hp
  refine g_eq (st' := [.int (bB (rgB (nI w) 48))]) (ws' := [(u0, .inr (9, [.ref u1, .ref u2, .ref u3, .ref u4, .ref u5, .ref u6, .int (nI kn), .ref u7, .int (bB ik), .ref u8, .int (nI ty), .ref u9, .int (nI ta), .int (bB iw), .ref u10, .ref u11])), (u4, .inl ((TY D)[0].1, 6912, .inl SWT)), (u5, .inl ((TY D)[0].1, 208, .inl M))]) rfl rfl rfl ?_
  refine g_if_neB (tgt := 9) O dX9_way_4 (by decide) (fun c_3 => ?_) (fun c_3 => absurd c_3 (by rw [rgB_t hw (by decide)]; decide))
  refine g_iload_n O dX9_way_9 2 rfl rfl ?_
  refine g_tableIn (off := 86) (tgt := 96) O dX9_way_10 (by decide +kernel) (by decide +kernel) (by decide +kernel) (by decide) ?_
  refine g_aload_n O dX9_way_96 0 rfl rfl ?_
  refine g_iload_n O dX9_way_97 1 rfl rfl ?_
  refine g_callV (As := [.int (nI w)]) (wr := []) O (kX9_isHeld l D z u0 u1 u2 u3 u4 u5 u6 u7 u8 u9 u10 u11 kn ik ty ta iw M s w (by first | assumption | omega) (by first | assumption | omega) (by first | assumption | omega) (by first | assumption | omega)) gX9_way_X9_isHeld rfl rfl rfl 1 (by decide +kernel) (by decide) (by decide) (q0 := 0) rfl rfl rfl [0, 1, 2] [] rfl (by decide) rfl (by decide) (by decide) rfl rfl (Nat.le_of_ble_eq_true rfl) dX9_way_98 (fun r_4 w_5 hp => ?_)
  obtain ⟨rfl, rfl⟩ := hp
  refine g_eq (st' := [.int (bB (!clB s w))]) (ws' := [(u0, .inr (9, [.ref u1, .ref u2, .ref u3, .ref u4, .ref u5, .ref u6, .int (nI kn), .ref u7, .int (bB ik), .ref u8, .int (nI ty), .ref u9, .int (nI ta), .int (bB iw), .ref u10, .ref u11])), (u4, .inl ((TY D)[0].1, 6912, .inl SWT)), (u5, .inl ((TY D)[0].1, 208, .inl M))]) rfl rfl rfl ?_
  refine g_if_eqB (tgt := 108) O dX9_way_101 (by decide) (fun c_6 => ?_) (fun c_6 => ?_)
  ·
    have hcl : clB s w = true := by simpa using c_6
    refine g_iconst (x := (nI 1)) O dX9_way_108 (by decide +kernel) ?_
    exact E 109 _ (nI 1) _ dX9_way_109 (by rw [hcl]; exact ⟨rfl, rfl⟩)
  ·
    have hcl : clB s w = false := by simpa using c_6
    refine g_iconst (x := (nI 0)) O dX9_way_104 (by decide +kernel) ?_
    refine g_goto (tgt := 109) O dX9_way_105 (by decide) ?_
    exact E 109 _ (nI 0) _ dX9_way_109 (by rw [hcl]; exact ⟨rfl, rfl⟩)

set_option maxHeartbeats 4000000 in
set_option maxRecDepth 100000 in
theorem kX9_swing_b1 (l : Launch) (D : va_G) (z : Nat × Nat × Nat) (u0 : Nat) (u1 : Nat) (u2 : Nat) (u3 : Nat) (u4 : Nat) (u5 : Nat) (u6 : Nat) (u7 : Nat) (u8 : Nat) (u9 : Nat) (u10 : Nat) (u11 : Nat) (kn : Nat) (ik : Bool) (ty : Nat) (ta : Nat) (iw : Bool) (w : Int32) (x : Int32) (y : Int32) (hb : rgB w 48 = false) : CM l yX9_swing wsX9_swing ({ frames := 2, cells := 0, slots := 0, locals := 43 } : Room) D z [.ref u0, .int w, .int x, .int y] [(u0, .inr (9, [.ref u1, .ref u2, .ref u3, .ref u4, .ref u5, .ref u6, .int (nI kn), .ref u7, .int (bB ik), .ref u8, .int (nI ty), .ref u9, .int (nI ta), .int (bB iw), .ref u10, .ref u11]))] (fun r_ w_ => r_ = some (.int (-1)) ∧ w_ = [(u0, .inr (9, [.ref u1, .ref u2, .ref u3, .ref u4, .ref u5, .ref u6, .int (nI kn), .ref u7, .int (bB ik), .ref u8, .int (nI ty), .ref u9, .int (nI ta), .int (bB iw), .ref u10, .ref u11]))]) 0 0 := by
  refine CM_int (own := RX9) (cc := cX9_swing) (maxL := 4) (L0 := [(0, .ref u0), (1, .int w), (2, .int x), (3, .int y)]) (by decide) rfl rfl (Nat.le_of_ble_eq_true rfl) rfl (fun X O E => ?_)
  refine g_iload_n O dX9_swing_0 1 rfl rfl ?_
  refine g_callS (As := [.int w]) (wr := [(u0, .inr (9, [.ref u1, .ref u2, .ref u3, .ref u4, .ref u5, .ref u6, .int (nI kn), .ref u7, .int (bB ik), .ref u8, .int (nI ty), .ref u9, .int (nI ta), .int (bB iw), .ref u10, .ref u11]))]) O (kX9_isWay l D z w ) gX9_swing_X9_isWay rfl rfl rfl 1 (by decide +kernel) (by decide) (by decide) [] [0] rfl (by decide) rfl (by decide) (by decide) rfl rfl (Nat.le_of_ble_eq_true rfl) dX9_swing_1 (fun r_1 w_2 hp => ?_)
  obtain ⟨rfl, rfl⟩ := hp
  refine g_eq (st' := [.int (bB (rgB w 48))]) (ws' := [(u0, .inr (9, [.ref u1, .ref u2, .ref u3, .ref u4, .ref u5, .ref u6, .int (nI kn), .ref u7, .int (bB ik), .ref u8, .int (nI ty), .ref u9, .int (nI ta), .int (bB iw), .ref u10, .ref u11]))]) rfl rfl rfl ?_
  refine g_if_eqB (tgt := 29) O dX9_swing_4 (by decide) (fun c_3 => ?_) (fun c_3 => absurd c_3 (by rw [hb]; decide))
  refine g_iconst (x := (-1)) O dX9_swing_29 (by decide +kernel) ?_
  exact E 30 _ (-1) _ dX9_swing_30 ⟨rfl, rfl⟩

set_option maxHeartbeats 4000000 in
set_option maxRecDepth 100000 in
theorem kX9_swing_b2 (l : Launch) (D : va_G) (z : Nat × Nat × Nat) (u0 : Nat) (u1 : Nat) (u2 : Nat) (u3 : Nat) (u4 : Nat) (u5 : Nat) (u6 : Nat) (u7 : Nat) (u8 : Nat) (u9 : Nat) (u10 : Nat) (u11 : Nat) (kn : Nat) (ik : Bool) (ty : Nat) (ta : Nat) (iw : Bool) (w : Nat) (x : Int32) (y : Int32) (hw : w < 48) (hb : (rgB x 12 && rgB y 12) = false) : CM l yX9_swing wsX9_swing ({ frames := 2, cells := 0, slots := 0, locals := 43 } : Room) D z [.ref u0, .int (nI w), .int x, .int y] [(u0, .inr (9, [.ref u1, .ref u2, .ref u3, .ref u4, .ref u5, .ref u6, .int (nI kn), .ref u7, .int (bB ik), .ref u8, .int (nI ty), .ref u9, .int (nI ta), .int (bB iw), .ref u10, .ref u11]))] (fun r_ w_ => r_ = some (.int (-1)) ∧ w_ = [(u0, .inr (9, [.ref u1, .ref u2, .ref u3, .ref u4, .ref u5, .ref u6, .int (nI kn), .ref u7, .int (bB ik), .ref u8, .int (nI ty), .ref u9, .int (nI ta), .int (bB iw), .ref u10, .ref u11]))]) 0 0 := by
  refine CM_int (own := RX9) (cc := cX9_swing) (maxL := 4) (L0 := [(0, .ref u0), (1, .int (nI w)), (2, .int x), (3, .int y)]) (by decide) rfl rfl (Nat.le_of_ble_eq_true rfl) rfl (fun X O E => ?_)
  refine g_iload_n O dX9_swing_0 1 rfl rfl ?_
  refine g_callS (As := [.int (nI w)]) (wr := [(u0, .inr (9, [.ref u1, .ref u2, .ref u3, .ref u4, .ref u5, .ref u6, .int (nI kn), .ref u7, .int (bB ik), .ref u8, .int (nI ty), .ref u9, .int (nI ta), .int (bB iw), .ref u10, .ref u11]))]) O (kX9_isWay l D z (nI w) ) gX9_swing_X9_isWay rfl rfl rfl 1 (by decide +kernel) (by decide) (by decide) [] [0] rfl (by decide) rfl (by decide) (by decide) rfl rfl (Nat.le_of_ble_eq_true rfl) dX9_swing_1 (fun r_1 w_2 hp => ?_)
  obtain ⟨rfl, rfl⟩ := hp
  refine g_eq (st' := [.int (bB (rgB (nI w) 48))]) (ws' := [(u0, .inr (9, [.ref u1, .ref u2, .ref u3, .ref u4, .ref u5, .ref u6, .int (nI kn), .ref u7, .int (bB ik), .ref u8, .int (nI ty), .ref u9, .int (nI ta), .int (bB iw), .ref u10, .ref u11]))]) rfl rfl rfl ?_
  refine g_if_eqB (tgt := 29) O dX9_swing_4 (by decide) (fun c_3 => absurd c_3 (by rw [rgB_t hw (by decide)]; decide)) (fun c_3 => ?_)
  refine g_iload_n O dX9_swing_7 2 rfl rfl ?_
  refine g_iload_n O dX9_swing_8 3 rfl rfl ?_
  refine g_callS (As := [.int x, .int y]) (wr := [(u0, .inr (9, [.ref u1, .ref u2, .ref u3, .ref u4, .ref u5, .ref u6, .int (nI kn), .ref u7, .int (bB ik), .ref u8, .int (nI ty), .ref u9, .int (nI ta), .int (bB iw), .ref u10, .ref u11]))]) O (kX9_isOn l D z x y ) gX9_swing_X9_isOn rfl rfl rfl 2 (by decide +kernel) (by decide) (by decide) [] [0] rfl (by decide) rfl (by decide) (by decide) rfl rfl (Nat.le_of_ble_eq_true rfl) dX9_swing_9 (fun r_4 w_5 hp => ?_)
  obtain ⟨rfl, rfl⟩ := hp
  refine g_eq (st' := [.int (bB (rgB x 12 && rgB y 12))]) (ws' := [(u0, .inr (9, [.ref u1, .ref u2, .ref u3, .ref u4, .ref u5, .ref u6, .int (nI kn), .ref u7, .int (bB ik), .ref u8, .int (nI ty), .ref u9, .int (nI ta), .int (bB iw), .ref u10, .ref u11]))]) rfl rfl rfl ?_
  refine g_if_eqB (tgt := 29) O dX9_swing_12 (by decide) (fun c_6 => ?_) (fun c_6 => absurd c_6 (by rw [hb]; decide))
  refine g_iconst (x := (-1)) O dX9_swing_29 (by decide +kernel) ?_
  exact E 30 _ (-1) _ dX9_swing_30 ⟨rfl, rfl⟩

set_option maxHeartbeats 4000000 in
set_option maxRecDepth 100000 in
theorem kX9_swing_ok (l : Launch) (D : va_G) (z : Nat × Nat × Nat) (u0 : Nat) (u1 : Nat) (u2 : Nat) (u3 : Nat) (u4 : Nat) (u5 : Nat) (u6 : Nat) (u7 : Nat) (u8 : Nat) (u9 : Nat) (u10 : Nat) (u11 : Nat) (kn : Nat) (ik : Bool) (ty : Nat) (ta : Nat) (iw : Bool) (w : Nat) (x : Nat) (y : Nat) (hw : w < 48) (hx : x < 12) (hy : y < 12) : CM l yX9_swing wsX9_swing ({ frames := 2, cells := 0, slots := 0, locals := 43 } : Room) D z [.ref u0, .int (nI w), .int (nI x), .int (nI y)] [(u0, .inr (9, [.ref u1, .ref u2, .ref u3, .ref u4, .ref u5, .ref u6, .int (nI kn), .ref u7, .int (bB ik), .ref u8, .int (nI ty), .ref u9, .int (nI ta), .int (bB iw), .ref u10, .ref u11])), (u4, .inl ((TY D)[0].1, 6912, .inl SWT))] (fun r_ w_ => r_ = some (.int (SW w (12 * y + x))) ∧ w_ = [(u0, .inr (9, [.ref u1, .ref u2, .ref u3, .ref u4, .ref u5, .ref u6, .int (nI kn), .ref u7, .int (bB ik), .ref u8, .int (nI ty), .ref u9, .int (nI ta), .int (bB iw), .ref u10, .ref u11])), (u4, .inl ((TY D)[0].1, 6912, .inl SWT))]) 0 0 := by
  refine CM_int (own := RX9) (cc := cX9_swing) (maxL := 4) (L0 := [(0, .ref u0), (1, .int (nI w)), (2, .int (nI x)), (3, .int (nI y))]) (by decide) rfl rfl (Nat.le_of_ble_eq_true rfl) rfl (fun X O E => ?_)
  refine g_iload_n O dX9_swing_0 1 rfl rfl ?_
  refine g_callS (As := [.int (nI w)]) (wr := [(u0, .inr (9, [.ref u1, .ref u2, .ref u3, .ref u4, .ref u5, .ref u6, .int (nI kn), .ref u7, .int (bB ik), .ref u8, .int (nI ty), .ref u9, .int (nI ta), .int (bB iw), .ref u10, .ref u11])), (u4, .inl ((TY D)[0].1, 6912, .inl SWT))]) O (kX9_isWay l D z (nI w) ) gX9_swing_X9_isWay rfl rfl rfl 1 (by decide +kernel) (by decide) (by decide) [] [0, 1] rfl (by decide) rfl (by decide) (by decide) rfl rfl (Nat.le_of_ble_eq_true rfl) dX9_swing_1 (fun r_1 w_2 hp => ?_)
  obtain ⟨rfl, rfl⟩ := hp
  refine g_eq (st' := [.int (bB (rgB (nI w) 48))]) (ws' := [(u0, .inr (9, [.ref u1, .ref u2, .ref u3, .ref u4, .ref u5, .ref u6, .int (nI kn), .ref u7, .int (bB ik), .ref u8, .int (nI ty), .ref u9, .int (nI ta), .int (bB iw), .ref u10, .ref u11])), (u4, .inl ((TY D)[0].1, 6912, .inl SWT))]) rfl rfl rfl ?_
  refine g_if_eqB (tgt := 29) O dX9_swing_4 (by decide) (fun c_3 => absurd c_3 (by rw [rgB_t hw (by decide)]; decide)) (fun c_3 => ?_)
  refine g_iload_n O dX9_swing_7 2 rfl rfl ?_
  refine g_iload_n O dX9_swing_8 3 rfl rfl ?_
  refine g_callS (As := [.int (nI x), .int (nI y)]) (wr := [(u0, .inr (9, [.ref u1, .ref u2, .ref u3, .ref u4, .ref u5, .ref u6, .int (nI kn), .ref u7, .int (bB ik), .ref u8, .int (nI ty), .ref u9, .int (nI ta), .int (bB iw), .ref u10, .ref u11])), (u4, .inl ((TY D)[0].1, 6912, .inl SWT))]) O (kX9_isOn l D z (nI x) (nI y) ) gX9_swing_X9_isOn rfl rfl rfl 2 (by decide +kernel) (by decide) (by decide) [] [0, 1] rfl (by decide) rfl (by decide) (by decide) rfl rfl (Nat.le_of_ble_eq_true rfl) dX9_swing_9 (fun r_4 w_5 hp => ?_)
  obtain ⟨rfl, rfl⟩ := hp
  refine g_eq (st' := [.int (bB (rgB (nI x) 12 && rgB (nI y) 12))]) (ws' := [(u0, .inr (9, [.ref u1, .ref u2, .ref u3, .ref u4, .ref u5, .ref u6, .int (nI kn), .ref u7, .int (bB ik), .ref u8, .int (nI ty), .ref u9, .int (nI ta), .int (bB iw), .ref u10, .ref u11])), (u4, .inl ((TY D)[0].1, 6912, .inl SWT))]) rfl rfl rfl ?_
  refine g_if_eqB (tgt := 29) O dX9_swing_12 (by decide) (fun c_6 => absurd c_6 (by rw [rgB_t hx (by decide), rgB_t hy (by decide)]; decide)) (fun c_6 => ?_)
  refine g_aload_n O dX9_swing_15 0 rfl rfl ?_
  refine g_iload_n O dX9_swing_16 1 rfl rfl ?_
  refine g_bipush (x := (nI 12)) O dX9_swing_17 (by decide +kernel) ?_
  refine g_iload_n O dX9_swing_19 3 rfl rfl ?_
  refine g_imulN O dX9_swing_20 ?_
  refine g_iload_n O dX9_swing_21 2 rfl rfl ?_
  refine g_iaddN O dX9_swing_22 ?_
  refine g_callV (As := [.int (nI w), .int (nI ((12 * y) + x))]) (wr := []) O (kX9_swingAt l D z u0 u1 u2 u3 u4 u5 u6 u7 u8 u9 u10 u11 kn ik ty ta iw w ((12 * y) + x) (by first | assumption | omega) (by first | assumption | omega)) gX9_swing_X9_swingAt rfl rfl rfl 2 (by decide +kernel) (by decide) (by decide) (q0 := 0) rfl rfl rfl [0, 1] [] rfl (by decide) rfl (by decide) (by decide) rfl rfl (Nat.le_of_ble_eq_true rfl) dX9_swing_23 (fun r_7 w_8 hp => ?_)
  obtain ⟨rfl, rfl⟩ := hp
  refine g_eq (st' := [.int (SW w ((12 * y) + x))]) (ws' := [(u0, .inr (9, [.ref u1, .ref u2, .ref u3, .ref u4, .ref u5, .ref u6, .int (nI kn), .ref u7, .int (bB ik), .ref u8, .int (nI ty), .ref u9, .int (nI ta), .int (bB iw), .ref u10, .ref u11])), (u4, .inl ((TY D)[0].1, 6912, .inl SWT))]) rfl rfl rfl ?_
  refine g_goto (tgt := 30) O dX9_swing_26 (by decide) ?_
  exact E 30 _ (SW w ((12 * y) + x)) _ dX9_swing_30 ⟨rfl, rfl⟩

set_option maxHeartbeats 4000000 in
set_option maxRecDepth 100000 in
theorem kX9_sounds_b1 (l : Launch) (D : va_G) (z : Nat × Nat × Nat) (u0 : Nat) (u1 : Nat) (u2 : Nat) (u3 : Nat) (u4 : Nat) (u5 : Nat) (u6 : Nat) (u7 : Nat) (u8 : Nat) (u9 : Nat) (u10 : Nat) (u11 : Nat) (kn : Nat) (ik : Bool) (ty : Nat) (ta : Nat) (iw : Bool) (x : Int32) (y : Int32) (hb : (rgB x 4 && rgB y 12) = false) : CM l yX9_sounds wsX9_sounds ({ frames := 4, cells := 0, slots := 0, locals := 89 } : Room) D z [.ref u0, .int x, .int y] [(u0, .inr (9, [.ref u1, .ref u2, .ref u3, .ref u4, .ref u5, .ref u6, .int (nI kn), .ref u7, .int (bB ik), .ref u8, .int (nI ty), .ref u9, .int (nI ta), .int (bB iw), .ref u10, .ref u11]))] (fun r_ w_ => r_ = some (.int (-1)) ∧ w_ = [(u0, .inr (9, [.ref u1, .ref u2, .ref u3, .ref u4, .ref u5, .ref u6, .int (nI kn), .ref u7, .int (bB ik), .ref u8, .int (nI ty), .ref u9, .int (nI ta), .int (bB iw), .ref u10, .ref u11]))]) 0 0 := by
  refine CM_int (own := RX9) (cc := cX9_sounds) (maxL := 3) (L0 := [(0, .ref u0), (1, .int x), (2, .int y)]) (by decide) rfl rfl (Nat.le_of_ble_eq_true rfl) rfl (fun X O E => ?_)
  refine g_iload_n O dX9_sounds_0 1 rfl rfl ?_
  refine g_iload_n O dX9_sounds_1 2 rfl rfl ?_
  refine g_callS (As := [.int x, .int y]) (wr := [(u0, .inr (9, [.ref u1, .ref u2, .ref u3, .ref u4, .ref u5, .ref u6, .int (nI kn), .ref u7, .int (bB ik), .ref u8, .int (nI ty), .ref u9, .int (nI ta), .int (bB iw), .ref u10, .ref u11]))]) O (kX9_isBow l D z x y ) gX9_sounds_X9_isBow rfl rfl rfl 2 (by decide +kernel) (by decide) (by decide) [] [0] rfl (by decide) rfl (by decide) (by decide) rfl rfl (Nat.le_of_ble_eq_true rfl) dX9_sounds_2 (fun r_1 w_2 hp => ?_)
  obtain ⟨rfl, rfl⟩ := hp
  refine g_eq (st' := [.int (bB (rgB x 4 && rgB y 12))]) (ws' := [(u0, .inr (9, [.ref u1, .ref u2, .ref u3, .ref u4, .ref u5, .ref u6, .int (nI kn), .ref u7, .int (bB ik), .ref u8, .int (nI ty), .ref u9, .int (nI ta), .int (bB iw), .ref u10, .ref u11]))]) rfl rfl rfl ?_
  refine g_if_eqB (tgt := 20) O dX9_sounds_5 (by decide) (fun c_3 => ?_) (fun c_3 => absurd c_3 (by rw [hb]; decide))
  refine g_iconst (x := (-1)) O dX9_sounds_20 (by decide +kernel) ?_
  exact E 21 _ (-1) _ dX9_sounds_21 ⟨rfl, rfl⟩

set_option maxHeartbeats 4000000 in
set_option maxRecDepth 100000 in
theorem kX9_sounds_ok (l : Launch) (D : va_G) (z : Nat × Nat × Nat) (u0 : Nat) (u1 : Nat) (u2 : Nat) (u3 : Nat) (u4 : Nat) (u5 : Nat) (u6 : Nat) (u7 : Nat) (u8 : Nat) (u9 : Nat) (u10 : Nat) (u11 : Nat) (kn : Nat) (ik : Bool) (ty : Nat) (ta : Nat) (iw : Bool) (M : Nat → Int32) (s : SV) (x : Nat) (y : Nat) (hx : x < 4) (hy : y < 12) (hM : RM M s) (hnc : sv_nc s ≤ 4) (hcc : ∀ j, j < sv_nc s → sv_cc s j < 12 ∧ sv_cr s j < 12) : CM l yX9_sounds wsX9_sounds ({ frames := 4, cells := 0, slots := 0, locals := 89 } : Room) D z [.ref u0, .int (nI x), .int (nI y)] [(u0, .inr (9, [.ref u1, .ref u2, .ref u3, .ref u4, .ref u5, .ref u6, .int (nI kn), .ref u7, .int (bB ik), .ref u8, .int (nI ty), .ref u9, .int (nI ta), .int (bB iw), .ref u10, .ref u11])), (u4, .inl ((TY D)[0].1, 6912, .inl SWT)), (u5, .inl ((TY D)[0].1, 208, .inl M))] (fun r_ w_ => r_ = some (.int (orN (wyO s (bpN x y)))) ∧ w_ = [(u0, .inr (9, [.ref u1, .ref u2, .ref u3, .ref u4, .ref u5, .ref u6, .int (nI kn), .ref u7, .int (bB ik), .ref u8, .int (nI ty), .ref u9, .int (nI ta), .int (bB iw), .ref u10, .ref u11])), (u4, .inl ((TY D)[0].1, 6912, .inl SWT)), (u5, .inl ((TY D)[0].1, 208, .inl M))]) 0 0 := by
  refine CM_int (own := RX9) (cc := cX9_sounds) (maxL := 3) (L0 := [(0, .ref u0), (1, .int (nI x)), (2, .int (nI y))]) (by decide) rfl rfl (Nat.le_of_ble_eq_true rfl) rfl (fun X O E => ?_)
  refine g_iload_n O dX9_sounds_0 1 rfl rfl ?_
  refine g_iload_n O dX9_sounds_1 2 rfl rfl ?_
  refine g_callS (As := [.int (nI x), .int (nI y)]) (wr := [(u0, .inr (9, [.ref u1, .ref u2, .ref u3, .ref u4, .ref u5, .ref u6, .int (nI kn), .ref u7, .int (bB ik), .ref u8, .int (nI ty), .ref u9, .int (nI ta), .int (bB iw), .ref u10, .ref u11])), (u4, .inl ((TY D)[0].1, 6912, .inl SWT)), (u5, .inl ((TY D)[0].1, 208, .inl M))]) O (kX9_isBow l D z (nI x) (nI y) ) gX9_sounds_X9_isBow rfl rfl rfl 2 (by decide +kernel) (by decide) (by decide) [] [0, 1, 2] rfl (by decide) rfl (by decide) (by decide) rfl rfl (Nat.le_of_ble_eq_true rfl) dX9_sounds_2 (fun r_1 w_2 hp => ?_)
  obtain ⟨rfl, rfl⟩ := hp
  refine g_eq (st' := [.int (bB (rgB (nI x) 4 && rgB (nI y) 12))]) (ws' := [(u0, .inr (9, [.ref u1, .ref u2, .ref u3, .ref u4, .ref u5, .ref u6, .int (nI kn), .ref u7, .int (bB ik), .ref u8, .int (nI ty), .ref u9, .int (nI ta), .int (bB iw), .ref u10, .ref u11])), (u4, .inl ((TY D)[0].1, 6912, .inl SWT)), (u5, .inl ((TY D)[0].1, 208, .inl M))]) rfl rfl rfl ?_
  refine g_if_eqB (tgt := 20) O dX9_sounds_5 (by decide) (fun c_3 => absurd c_3 (by rw [rgB_t hx (by decide), rgB_t hy (by decide)]; decide)) (fun c_3 => ?_)
  refine g_aload_n O dX9_sounds_8 0 rfl rfl ?_
  refine g_iload_n O dX9_sounds_9 1 rfl rfl ?_
  refine g_iload_n O dX9_sounds_10 2 rfl rfl ?_
  refine g_callS (As := [.int (nI x), .int (nI y)]) (wr := [(u0, .inr (9, [.ref u1, .ref u2, .ref u3, .ref u4, .ref u5, .ref u6, .int (nI kn), .ref u7, .int (bB ik), .ref u8, .int (nI ty), .ref u9, .int (nI ta), .int (bB iw), .ref u10, .ref u11])), (u4, .inl ((TY D)[0].1, 6912, .inl SWT)), (u5, .inl ((TY D)[0].1, 208, .inl M))]) O (kX9_bowPlace l D z x y (by first | assumption | omega)) gX9_sounds_X9_bowPlace rfl rfl rfl 2 (by decide +kernel) (by decide) (by decide) [] [0, 1, 2] rfl (by decide) rfl (by decide) (by decide) rfl rfl (Nat.le_of_ble_eq_true rfl) dX9_sounds_11 (fun r_4 w_5 hp => ?_)
  obtain ⟨rfl, rfl⟩ := hp
  refine g_eq (st' := [.int (nI (bpN x y)), .ref u0]) (ws' := [(u0, .inr (9, [.ref u1, .ref u2, .ref u3, .ref u4, .ref u5, .ref u6, .int (nI kn), .ref u7, .int (bB ik), .ref u8, .int (nI ty), .ref u9, .int (nI ta), .int (bB iw), .ref u10, .ref u11])), (u4, .inl ((TY D)[0].1, 6912, .inl SWT)), (u5, .inl ((TY D)[0].1, 208, .inl M))]) rfl rfl rfl ?_
  refine g_callV (As := [.int (nI (bpN x y))]) (wr := []) O (kX9_soundsAt l D z u0 u1 u2 u3 u4 u5 u6 u7 u8 u9 u10 u11 kn ik ty ta iw M s (bpN x y) (by first | assumption | exact bpN_lt hy) (by first | assumption | exact bpN_lt hy) (by first | assumption | exact bpN_lt hy) (by first | assumption | exact bpN_lt hy)) gX9_sounds_X9_soundsAt rfl rfl rfl 1 (by decide +kernel) (by decide) (by decide) (q0 := 0) rfl rfl rfl [0, 1, 2] [] rfl (by decide) rfl (by decide) (by decide) rfl rfl (Nat.le_of_ble_eq_true rfl) dX9_sounds_14 (fun r_6 w_7 hp => ?_)
  obtain ⟨rfl, rfl⟩ := hp
  refine g_eq (st' := [.int (orN (wyO s (bpN x y)))]) (ws' := [(u0, .inr (9, [.ref u1, .ref u2, .ref u3, .ref u4, .ref u5, .ref u6, .int (nI kn), .ref u7, .int (bB ik), .ref u8, .int (nI ty), .ref u9, .int (nI ta), .int (bB iw), .ref u10, .ref u11])), (u4, .inl ((TY D)[0].1, 6912, .inl SWT)), (u5, .inl ((TY D)[0].1, 208, .inl M))]) rfl rfl rfl ?_
  refine g_goto (tgt := 21) O dX9_sounds_17 (by decide) ?_
  exact E 21 _ (orN (wyO s (bpN x y))) _ dX9_sounds_21 ⟨rfl, rfl⟩

set_option maxHeartbeats 4000000 in
set_option maxRecDepth 100000 in
theorem kX9_why_b1 (l : Launch) (D : va_G) (z : Nat × Nat × Nat) (u0 : Nat) (u1 : Nat) (u2 : Nat) (u3 : Nat) (u4 : Nat) (u5 : Nat) (u6 : Nat) (u7 : Nat) (u8 : Nat) (u9 : Nat) (u10 : Nat) (u11 : Nat) (kn : Nat) (ik : Bool) (ty : Nat) (ta : Nat) (iw : Bool) (w : Int32) (x : Int32) (y : Int32) (hb : rgB w 48 = false) : CM l yX9_why wsX9_why ({ frames := 4, cells := 0, slots := 0, locals := 89 } : Room) D z [.ref u0, .int w, .int x, .int y] [(u0, .inr (9, [.ref u1, .ref u2, .ref u3, .ref u4, .ref u5, .ref u6, .int (nI kn), .ref u7, .int (bB ik), .ref u8, .int (nI ty), .ref u9, .int (nI ta), .int (bB iw), .ref u10, .ref u11]))] (fun r_ w_ => r_ = some (.int (-1)) ∧ w_ = [(u0, .inr (9, [.ref u1, .ref u2, .ref u3, .ref u4, .ref u5, .ref u6, .int (nI kn), .ref u7, .int (bB ik), .ref u8, .int (nI ty), .ref u9, .int (nI ta), .int (bB iw), .ref u10, .ref u11]))]) 0 0 := by
  refine CM_int (own := RX9) (cc := cX9_why) (maxL := 5) (L0 := [(0, .ref u0), (1, .int w), (2, .int x), (3, .int y)]) (by decide) rfl rfl (Nat.le_of_ble_eq_true rfl) rfl (fun X O E => ?_)
  refine g_iload_n O dX9_why_0 1 rfl rfl ?_
  refine g_callS (As := [.int w]) (wr := [(u0, .inr (9, [.ref u1, .ref u2, .ref u3, .ref u4, .ref u5, .ref u6, .int (nI kn), .ref u7, .int (bB ik), .ref u8, .int (nI ty), .ref u9, .int (nI ta), .int (bB iw), .ref u10, .ref u11]))]) O (kX9_isWay l D z w ) gX9_why_X9_isWay rfl rfl rfl 1 (by decide +kernel) (by decide) (by decide) [] [0] rfl (by decide) rfl (by decide) (by decide) rfl rfl (Nat.le_of_ble_eq_true rfl) dX9_why_1 (fun r_1 w_2 hp => ?_)
  obtain ⟨rfl, rfl⟩ := hp
  refine g_eq (st' := [.int (bB (rgB w 48))]) (ws' := [(u0, .inr (9, [.ref u1, .ref u2, .ref u3, .ref u4, .ref u5, .ref u6, .int (nI kn), .ref u7, .int (bB ik), .ref u8, .int (nI ty), .ref u9, .int (nI ta), .int (bB iw), .ref u10, .ref u11]))]) rfl rfl rfl ?_
  refine g_if_eqB (tgt := 15) O dX9_why_4 (by decide) (fun c_3 => ?_) (fun c_3 => absurd c_3 (by rw [hb]; decide))
  refine g_iconst (x := (-1)) O dX9_why_15 (by decide +kernel) ?_
  exact E 16 _ (-1) _ dX9_why_16 ⟨rfl, rfl⟩

set_option maxHeartbeats 4000000 in
set_option maxRecDepth 100000 in
theorem kX9_why_b2 (l : Launch) (D : va_G) (z : Nat × Nat × Nat) (u0 : Nat) (u1 : Nat) (u2 : Nat) (u3 : Nat) (u4 : Nat) (u5 : Nat) (u6 : Nat) (u7 : Nat) (u8 : Nat) (u9 : Nat) (u10 : Nat) (u11 : Nat) (kn : Nat) (ik : Bool) (ty : Nat) (ta : Nat) (iw : Bool) (w : Nat) (x : Int32) (y : Int32) (hw : w < 48) (hb : (rgB x 4 && rgB y 12) = false) : CM l yX9_why wsX9_why ({ frames := 4, cells := 0, slots := 0, locals := 89 } : Room) D z [.ref u0, .int (nI w), .int x, .int y] [(u0, .inr (9, [.ref u1, .ref u2, .ref u3, .ref u4, .ref u5, .ref u6, .int (nI kn), .ref u7, .int (bB ik), .ref u8, .int (nI ty), .ref u9, .int (nI ta), .int (bB iw), .ref u10, .ref u11]))] (fun r_ w_ => r_ = some (.int (-1)) ∧ w_ = [(u0, .inr (9, [.ref u1, .ref u2, .ref u3, .ref u4, .ref u5, .ref u6, .int (nI kn), .ref u7, .int (bB ik), .ref u8, .int (nI ty), .ref u9, .int (nI ta), .int (bB iw), .ref u10, .ref u11]))]) 0 0 := by
  refine CM_int (own := RX9) (cc := cX9_why) (maxL := 5) (L0 := [(0, .ref u0), (1, .int (nI w)), (2, .int x), (3, .int y)]) (by decide) rfl rfl (Nat.le_of_ble_eq_true rfl) rfl (fun X O E => ?_)
  refine g_iload_n O dX9_why_0 1 rfl rfl ?_
  refine g_callS (As := [.int (nI w)]) (wr := [(u0, .inr (9, [.ref u1, .ref u2, .ref u3, .ref u4, .ref u5, .ref u6, .int (nI kn), .ref u7, .int (bB ik), .ref u8, .int (nI ty), .ref u9, .int (nI ta), .int (bB iw), .ref u10, .ref u11]))]) O (kX9_isWay l D z (nI w) ) gX9_why_X9_isWay rfl rfl rfl 1 (by decide +kernel) (by decide) (by decide) [] [0] rfl (by decide) rfl (by decide) (by decide) rfl rfl (Nat.le_of_ble_eq_true rfl) dX9_why_1 (fun r_1 w_2 hp => ?_)
  obtain ⟨rfl, rfl⟩ := hp
  refine g_eq (st' := [.int (bB (rgB (nI w) 48))]) (ws' := [(u0, .inr (9, [.ref u1, .ref u2, .ref u3, .ref u4, .ref u5, .ref u6, .int (nI kn), .ref u7, .int (bB ik), .ref u8, .int (nI ty), .ref u9, .int (nI ta), .int (bB iw), .ref u10, .ref u11]))]) rfl rfl rfl ?_
  refine g_if_eqB (tgt := 15) O dX9_why_4 (by decide) (fun c_3 => absurd c_3 (by rw [rgB_t hw (by decide)]; decide)) (fun c_3 => ?_)
  refine g_iload_n O dX9_why_7 2 rfl rfl ?_
  refine g_iload_n O dX9_why_8 3 rfl rfl ?_
  refine g_callS (As := [.int x, .int y]) (wr := [(u0, .inr (9, [.ref u1, .ref u2, .ref u3, .ref u4, .ref u5, .ref u6, .int (nI kn), .ref u7, .int (bB ik), .ref u8, .int (nI ty), .ref u9, .int (nI ta), .int (bB iw), .ref u10, .ref u11]))]) O (kX9_isBow l D z x y ) gX9_why_X9_isBow rfl rfl rfl 2 (by decide +kernel) (by decide) (by decide) [] [0] rfl (by decide) rfl (by decide) (by decide) rfl rfl (Nat.le_of_ble_eq_true rfl) dX9_why_9 (fun r_4 w_5 hp => ?_)
  obtain ⟨rfl, rfl⟩ := hp
  refine g_eq (st' := [.int (bB (rgB x 4 && rgB y 12))]) (ws' := [(u0, .inr (9, [.ref u1, .ref u2, .ref u3, .ref u4, .ref u5, .ref u6, .int (nI kn), .ref u7, .int (bB ik), .ref u8, .int (nI ty), .ref u9, .int (nI ta), .int (bB iw), .ref u10, .ref u11]))]) rfl rfl rfl ?_
  refine g_if_neB (tgt := 17) O dX9_why_12 (by decide) (fun c_6 => absurd c_6 (by rw [hb]; decide)) (fun c_6 => ?_)
  refine g_iconst (x := (-1)) O dX9_why_15 (by decide +kernel) ?_
  exact E 16 _ (-1) _ dX9_why_16 ⟨rfl, rfl⟩

theorem hiX9_why_X9 : ∀ w ∈ wsX90, w ∈ wsX9_why := by decide +kernel
set_option maxHeartbeats 4000000 in
set_option maxRecDepth 100000 in
theorem kX9_why_ok (l : Launch) (D : va_G) (z : Nat × Nat × Nat) (u0 : Nat) (u1 : Nat) (u2 : Nat) (u3 : Nat) (u4 : Nat) (u5 : Nat) (u6 : Nat) (u7 : Nat) (u8 : Nat) (u9 : Nat) (u10 : Nat) (u11 : Nat) (kn : Nat) (ik : Bool) (ty : Nat) (ta : Nat) (iw : Bool) (M : Nat → Int32) (s : SV) (w : Nat) (x : Nat) (y : Nat) (hw : w < 48) (hx : x < 4) (hy : y < 12) (hM : RM M s) (hnc : sv_nc s ≤ 4) (hcc : ∀ j, j < sv_nc s → sv_cc s j < 12 ∧ sv_cr s j < 12) : CM l yX9_why wsX9_why ({ frames := 4, cells := 0, slots := 0, locals := 89 } : Room) D z [.ref u0, .int (nI w), .int (nI x), .int (nI y)] [(u0, .inr (9, [.ref u1, .ref u2, .ref u3, .ref u4, .ref u5, .ref u6, .int (nI kn), .ref u7, .int (bB ik), .ref u8, .int (nI ty), .ref u9, .int (nI ta), .int (bB iw), .ref u10, .ref u11])), (u4, .inl ((TY D)[0].1, 6912, .inl SWT)), (u5, .inl ((TY D)[0].1, 208, .inl M))] (fun r_ w_ => r_ = some (.int (nI (rsN s w (bpN x y)))) ∧ w_ = [(u0, .inr (9, [.ref u1, .ref u2, .ref u3, .ref u4, .ref u5, .ref u6, .int (nI kn), .ref u7, .int (bB ik), .ref u8, .int (nI ty), .ref u9, .int (nI ta), .int (bB iw), .ref u10, .ref u11])), (u4, .inl ((TY D)[0].1, 6912, .inl SWT)), (u5, .inl ((TY D)[0].1, 208, .inl M))]) 0 0 := by
  refine CM_int (own := RX9) (cc := cX9_why) (maxL := 5) (L0 := [(0, .ref u0), (1, .int (nI w)), (2, .int (nI x)), (3, .int (nI y))]) (by decide) rfl rfl (Nat.le_of_ble_eq_true rfl) rfl (fun X O E => ?_)
  refine g_iload_n O dX9_why_0 1 rfl rfl ?_
  refine g_callS (As := [.int (nI w)]) (wr := [(u0, .inr (9, [.ref u1, .ref u2, .ref u3, .ref u4, .ref u5, .ref u6, .int (nI kn), .ref u7, .int (bB ik), .ref u8, .int (nI ty), .ref u9, .int (nI ta), .int (bB iw), .ref u10, .ref u11])), (u4, .inl ((TY D)[0].1, 6912, .inl SWT)), (u5, .inl ((TY D)[0].1, 208, .inl M))]) O (kX9_isWay l D z (nI w) ) gX9_why_X9_isWay rfl rfl rfl 1 (by decide +kernel) (by decide) (by decide) [] [0, 1, 2] rfl (by decide) rfl (by decide) (by decide) rfl rfl (Nat.le_of_ble_eq_true rfl) dX9_why_1 (fun r_1 w_2 hp => ?_)
  obtain ⟨rfl, rfl⟩ := hp
  refine g_eq (st' := [.int (bB (rgB (nI w) 48))]) (ws' := [(u0, .inr (9, [.ref u1, .ref u2, .ref u3, .ref u4, .ref u5, .ref u6, .int (nI kn), .ref u7, .int (bB ik), .ref u8, .int (nI ty), .ref u9, .int (nI ta), .int (bB iw), .ref u10, .ref u11])), (u4, .inl ((TY D)[0].1, 6912, .inl SWT)), (u5, .inl ((TY D)[0].1, 208, .inl M))]) rfl rfl rfl ?_
  refine g_if_eqB (tgt := 15) O dX9_why_4 (by decide) (fun c_3 => absurd c_3 (by rw [rgB_t hw (by decide)]; decide)) (fun c_3 => ?_)
  refine g_iload_n O dX9_why_7 2 rfl rfl ?_
  refine g_iload_n O dX9_why_8 3 rfl rfl ?_
  refine g_callS (As := [.int (nI x), .int (nI y)]) (wr := [(u0, .inr (9, [.ref u1, .ref u2, .ref u3, .ref u4, .ref u5, .ref u6, .int (nI kn), .ref u7, .int (bB ik), .ref u8, .int (nI ty), .ref u9, .int (nI ta), .int (bB iw), .ref u10, .ref u11])), (u4, .inl ((TY D)[0].1, 6912, .inl SWT)), (u5, .inl ((TY D)[0].1, 208, .inl M))]) O (kX9_isBow l D z (nI x) (nI y) ) gX9_why_X9_isBow rfl rfl rfl 2 (by decide +kernel) (by decide) (by decide) [] [0, 1, 2] rfl (by decide) rfl (by decide) (by decide) rfl rfl (Nat.le_of_ble_eq_true rfl) dX9_why_9 (fun r_4 w_5 hp => ?_)
  obtain ⟨rfl, rfl⟩ := hp
  refine g_eq (st' := [.int (bB (rgB (nI x) 4 && rgB (nI y) 12))]) (ws' := [(u0, .inr (9, [.ref u1, .ref u2, .ref u3, .ref u4, .ref u5, .ref u6, .int (nI kn), .ref u7, .int (bB ik), .ref u8, .int (nI ty), .ref u9, .int (nI ta), .int (bB iw), .ref u10, .ref u11])), (u4, .inl ((TY D)[0].1, 6912, .inl SWT)), (u5, .inl ((TY D)[0].1, 208, .inl M))]) rfl rfl rfl ?_
  refine g_if_neB (tgt := 17) O dX9_why_12 (by decide) (fun c_6 => ?_) (fun c_6 => absurd c_6 (by rw [rgB_t hx (by decide), rgB_t hy (by decide)]; decide))
  refine g_iload_n O dX9_why_17 2 rfl rfl ?_
  refine g_iload_n O dX9_why_18 3 rfl rfl ?_
  refine g_callS (As := [.int (nI x), .int (nI y)]) (wr := [(u0, .inr (9, [.ref u1, .ref u2, .ref u3, .ref u4, .ref u5, .ref u6, .int (nI kn), .ref u7, .int (bB ik), .ref u8, .int (nI ty), .ref u9, .int (nI ta), .int (bB iw), .ref u10, .ref u11])), (u4, .inl ((TY D)[0].1, 6912, .inl SWT)), (u5, .inl ((TY D)[0].1, 208, .inl M))]) O (kX9_bowPlace l D z x y (by first | assumption | omega)) gX9_why_X9_bowPlace rfl rfl rfl 2 (by decide +kernel) (by decide) (by decide) [] [0, 1, 2] rfl (by decide) rfl (by decide) (by decide) rfl rfl (Nat.le_of_ble_eq_true rfl) dX9_why_19 (fun r_7 w_8 hp => ?_)
  obtain ⟨rfl, rfl⟩ := hp
  refine g_eq (st' := [.int (nI (bpN x y))]) (ws' := [(u0, .inr (9, [.ref u1, .ref u2, .ref u3, .ref u4, .ref u5, .ref u6, .int (nI kn), .ref u7, .int (bB ik), .ref u8, .int (nI ty), .ref u9, .int (nI ta), .int (bB iw), .ref u10, .ref u11])), (u4, .inl ((TY D)[0].1, 6912, .inl SWT)), (u5, .inl ((TY D)[0].1, 208, .inl M))]) rfl rfl rfl ?_
  refine g_istore (L' := [(0, .ref u0), (1, .int (nI w)), (2, .int (nI x)), (3, .int (nI y)), (4, .int (nI (bpN x y)))]) O dX9_why_22 (by decide) [1, 2, 3, 4, 0] rfl ?_
  refine g_aload_n O dX9_why_24 0 rfl rfl ?_
  refine g_iload_n O dX9_why_25 1 rfl rfl ?_
  refine g_callV (As := [.int (nI w)]) (wr := []) O (kX9_isHeld l D z u0 u1 u2 u3 u4 u5 u6 u7 u8 u9 u10 u11 kn ik ty ta iw M s w (by first | assumption | omega) (by first | assumption | omega) (by first | assumption | omega) (by first | assumption | omega)) gX9_why_X9_isHeld rfl rfl rfl 1 (by decide +kernel) (by decide) (by decide) (q0 := 0) rfl rfl rfl [0, 1, 2] [] rfl (by decide) rfl (by decide) (by decide) rfl rfl (Nat.le_of_ble_eq_true rfl) dX9_why_26 (fun r_9 w_10 hp => ?_)
  obtain ⟨rfl, rfl⟩ := hp
  refine g_eq (st' := [.int (bB (!clB s w))]) (ws' := [(u0, .inr (9, [.ref u1, .ref u2, .ref u3, .ref u4, .ref u5, .ref u6, .int (nI kn), .ref u7, .int (bB ik), .ref u8, .int (nI ty), .ref u9, .int (nI ta), .int (bB iw), .ref u10, .ref u11])), (u4, .inl ((TY D)[0].1, 6912, .inl SWT)), (u5, .inl ((TY D)[0].1, 208, .inl M))]) rfl rfl rfl ?_
  refine g_if_eqB (tgt := 36) O dX9_why_29 (by decide) (fun c_11 => ?_) (fun c_11 => ?_)
  ·
    have hclt : clB s w = true := by cases h : clB s w; (rw [h] at c_11; cases c_11); rfl
    refine g_aload_n O dX9_why_36 0 rfl rfl ?_
    refine g_iload_n O dX9_why_37 1 rfl rfl ?_
    refine g_iload O dX9_why_38 4 rfl ?_
    refine g_callV (As := [.int (nI w), .int (nI (bpN x y))]) (wr := [(u5, .inl ((TY D)[0].1, 208, .inl M))]) O (kX9_swingAt l D z u0 u1 u2 u3 u4 u5 u6 u7 u8 u9 u10 u11 kn ik ty ta iw w (bpN x y) (by first | assumption | exact bpN_lt hy) (by first | assumption | exact bpN_lt hy)) gX9_why_X9_swingAt rfl rfl rfl 2 (by decide +kernel) (by decide) (by decide) (q0 := 0) rfl rfl rfl [0, 1] [2] rfl (by decide) rfl (by decide) (by decide) rfl rfl (Nat.le_of_ble_eq_true rfl) dX9_why_40 (fun r_12 w_13 hp => ?_)
    obtain ⟨rfl, rfl⟩ := hp
    refine g_eq (st' := [.int (SW w (bpN x y))]) (ws' := [(u5, .inl ((TY D)[0].1, 208, .inl M)), (u0, .inr (9, [.ref u1, .ref u2, .ref u3, .ref u4, .ref u5, .ref u6, .int (nI kn), .ref u7, .int (bB ik), .ref u8, .int (nI ty), .ref u9, .int (nI ta), .int (bB iw), .ref u10, .ref u11])), (u4, .inl ((TY D)[0].1, 6912, .inl SWT))]) rfl rfl rfl ?_
    refine g_aload_n O dX9_why_43 0 rfl rfl ?_
    refine g_get O hiX9_why_X9 1 rfl rfl 4 (by decide) (by decide +kernel) rfl dX9_why_44 ?_
    refine g_sipush (x := (nI 145)) O dX9_why_47 (by decide +kernel) ?_
    refine g_ialdN O 0 rfl (by omega) (by omega) dX9_why_50 ?_
    refine g_eq (st' := [.int (sv_se s 1), .int (SW w (bpN x y))]) (by rw [RM_s1 hM]) rfl rfl ?_
    refine g_icmp_ge (tgt := 58) O dX9_why_51 (by decide) (fun c_14 => ?_) (fun c_14 => ?_)
    ·
      have hbw : bwB s w (bpN x y) = true := by simp only [bwB]; exact decide_eq_true c_14
      refine g_aload_n O dX9_why_58 0 rfl rfl ?_
      refine g_iload O dX9_why_59 4 rfl ?_
      refine g_callV (As := [.int (nI (bpN x y))]) (wr := []) O (kX9_soundsAt l D z u0 u1 u2 u3 u4 u5 u6 u7 u8 u9 u10 u11 kn ik ty ta iw M s (bpN x y) (by first | assumption | exact bpN_lt hy) (by first | assumption | exact bpN_lt hy) (by first | assumption | exact bpN_lt hy) (by first | assumption | exact bpN_lt hy)) gX9_why_X9_soundsAt rfl rfl rfl 1 (by decide +kernel) (by decide) (by decide) (q0 := 0) rfl rfl rfl [1, 2, 0] [] rfl (by decide) rfl (by decide) (by decide) rfl rfl (Nat.le_of_ble_eq_true rfl) dX9_why_61 (fun r_15 w_16 hp => ?_)
      obtain ⟨rfl, rfl⟩ := hp
      refine g_eq (st' := [.int (orN (wyO s (bpN x y)))]) (ws' := [(u0, .inr (9, [.ref u1, .ref u2, .ref u3, .ref u4, .ref u5, .ref u6, .int (nI kn), .ref u7, .int (bB ik), .ref u8, .int (nI ty), .ref u9, .int (nI ta), .int (bB iw), .ref u10, .ref u11])), (u4, .inl ((TY D)[0].1, 6912, .inl SWT)), (u5, .inl ((TY D)[0].1, 208, .inl M))]) rfl rfl rfl ?_
      refine g_iload_n O dX9_why_64 1 rfl rfl ?_
      refine g_icmp_ne (tgt := 72) O dX9_why_65 (by decide) (fun c_17 => ?_) (fun c_17 => ?_)
      ·
        have hrs : rsN s w (bpN x y) = 3 := by simp only [rsN]; rw [if_pos hclt, if_pos hbw, if_neg (fun h => c_17 ((orN_eq wy_lt (by omega)).mpr h))]
        refine g_iconst (x := (nI 3)) O dX9_why_72 (by decide +kernel) ?_
        exact E 73 _ (nI 3) _ dX9_why_73 (by rw [hrs]; exact ⟨rfl, rfl⟩)
      ·
        have hrs : rsN s w (bpN x y) = 0 := by simp only [rsN]; rw [if_pos hclt, if_pos hbw, if_pos ((orN_eq wy_lt (by omega)).mp (Decidable.not_not.mp c_17))]
        refine g_iconst (x := (nI 0)) O dX9_why_68 (by decide +kernel) ?_
        refine g_goto (tgt := 73) O dX9_why_69 (by decide) ?_
        exact E 73 _ (nI 0) _ dX9_why_73 (by rw [hrs]; exact ⟨rfl, rfl⟩)
    ·
      have hrs : rsN s w (bpN x y) = 2 := by simp only [rsN]; rw [if_pos hclt, if_neg (by simp only [bwB]; rw [decide_eq_false c_14]; decide)]
      refine g_iconst (x := (nI 2)) O dX9_why_54 (by decide +kernel) ?_
      refine g_goto (tgt := 73) O dX9_why_55 (by decide) ?_
      refine g_perm (ws' := [(u0, .inr (9, [.ref u1, .ref u2, .ref u3, .ref u4, .ref u5, .ref u6, .int (nI kn), .ref u7, .int (bB ik), .ref u8, .int (nI ty), .ref u9, .int (nI ta), .int (bB iw), .ref u10, .ref u11])), (u4, .inl ((TY D)[0].1, 6912, .inl SWT)), (u5, .inl ((TY D)[0].1, 208, .inl M))]) [1, 2, 0] rfl (by decide) ?_
      exact E 73 _ (nI 2) _ dX9_why_73 (by rw [hrs]; exact ⟨rfl, rfl⟩)
  ·
    have hclf : clB s w = false := by cases h : clB s w; rfl; (rw [h] at c_11; cases c_11)
    have hrs : rsN s w (bpN x y) = 1 := by simp only [rsN]; rw [if_neg (by rw [hclf]; decide)]
    refine g_iconst (x := (nI 1)) O dX9_why_32 (by decide +kernel) ?_
    refine g_goto (tgt := 73) O dX9_why_33 (by decide) ?_
    exact E 73 _ (nI 1) _ dX9_why_73 (by rw [hrs]; exact ⟨rfl, rfl⟩)

set_option maxHeartbeats 4000000 in
set_option maxRecDepth 100000 in
theorem kX9_possible_b1 (l : Launch) (D : va_G) (z : Nat × Nat × Nat) (u0 : Nat) (u1 : Nat) (u2 : Nat) (u3 : Nat) (u4 : Nat) (u5 : Nat) (u6 : Nat) (u7 : Nat) (u8 : Nat) (u9 : Nat) (u10 : Nat) (u11 : Nat) (kn : Nat) (ik : Bool) (ty : Nat) (ta : Nat) (iw : Bool) (k : Int32) (hb : k < 0) : CM l yX9_possible wsX9_possible ({ frames := 5, cells := 0, slots := 0, locals := 112 } : Room) D z [.ref u0, .int k] [(u0, .inr (9, [.ref u1, .ref u2, .ref u3, .ref u4, .ref u5, .ref u6, .int (nI kn), .ref u7, .int (bB ik), .ref u8, .int (nI ty), .ref u9, .int (nI ta), .int (bB iw), .ref u10, .ref u11]))] (fun r_ w_ => r_ = some (.int (-2)) ∧ w_ = [(u0, .inr (9, [.ref u1, .ref u2, .ref u3, .ref u4, .ref u5, .ref u6, .int (nI kn), .ref u7, .int (bB ik), .ref u8, .int (nI ty), .ref u9, .int (nI ta), .int (bB iw), .ref u10, .ref u11]))]) 0 0 := by
  refine CM_int (own := RX9) (cc := cX9_possible) (maxL := 4) (L0 := [(0, .ref u0), (1, .int k)]) (by decide) rfl rfl (Nat.le_of_ble_eq_true rfl) rfl (fun X O E => ?_)
  refine g_iload_n O dX9_possible_0 1 rfl rfl ?_
  refine g_if_ge (tgt := 7) O dX9_possible_1 (by decide) (fun c_1 => (by exact absurd hb (Int32.not_lt.mpr c_1))) (fun c_1 => ?_)
  refine g_bipush (x := (-2)) O dX9_possible_4 (by decide +kernel) ?_
  exact E 6 _ (-2) _ dX9_possible_6 ⟨rfl, rfl⟩

set_option maxHeartbeats 4000000 in
set_option maxRecDepth 100000 in
/-- the possible ways -/
theorem kX9_possible_ok (l : Launch) (D : va_G) (z : Nat × Nat × Nat) (u0 : Nat) (u1 : Nat) (u2 : Nat) (u3 : Nat) (u4 : Nat) (u5 : Nat) (u6 : Nat) (u7 : Nat) (u8 : Nat) (u9 : Nat) (u10 : Nat) (u11 : Nat) (kn : Nat) (ik : Bool) (ty : Nat) (ta : Nat) (iw : Bool) (M : Nat → Int32) (s : SV) (k : Nat) (hk : k < 2147483648) (hM : RM M s) (hnc : sv_nc s ≤ 4) (hcc : ∀ j, j < sv_nc s → sv_cc s j < 12 ∧ sv_cr s j < 12) : CM l yX9_possible wsX9_possible ({ frames := 5, cells := 0, slots := 0, locals := 112 } : Room) D z [.ref u0, .int (nI k)] [(u0, .inr (9, [.ref u1, .ref u2, .ref u3, .ref u4, .ref u5, .ref u6, .int (nI kn), .ref u7, .int (bB ik), .ref u8, .int (nI ty), .ref u9, .int (nI ta), .int (bB iw), .ref u10, .ref u11])), (u4, .inl ((TY D)[0].1, 6912, .inl SWT)), (u5, .inl ((TY D)[0].1, 208, .inl M))] (fun r_ w_ => r_ = some (.int (orN (fdB (fun w => psO s w 48 && decide (cntB (fun w => psO s w 48) w = k)) 48))) ∧ w_ = [(u0, .inr (9, [.ref u1, .ref u2, .ref u3, .ref u4, .ref u5, .ref u6, .int (nI kn), .ref u7, .int (bB ik), .ref u8, .int (nI ty), .ref u9, .int (nI ta), .int (bB iw), .ref u10, .ref u11])), (u4, .inl ((TY D)[0].1, 6912, .inl SWT)), (u5, .inl ((TY D)[0].1, 208, .inl M))]) 0 0 := by
  refine CM_int (own := RX9) (cc := cX9_possible) (maxL := 4) (L0 := [(0, .ref u0), (1, .int (nI k))]) (by decide) rfl rfl (Nat.le_of_ble_eq_true rfl) rfl (fun X O E => ?_)
  refine g_iload_n O dX9_possible_0 1 rfl rfl ?_
  refine g_if_geN (tgt := 7) O (by omega) dX9_possible_1 (by decide) ?_
  refine g_iconst (x := (nI 0)) O dX9_possible_7 (by decide +kernel) ?_
  refine g_istore_n (L' := [(0, .ref u0), (1, .int (nI k)), (2, .int (nI 0))]) O dX9_possible_8 rfl (by decide) [1, 2, 0] rfl ?_
  refine g_iconst (x := (nI 0)) O dX9_possible_9 (by decide +kernel) ?_
  refine g_istore_n (L' := [(0, .ref u0), (1, .int (nI k)), (2, .int (nI 0)), (3, .int (nI 0))]) O dX9_possible_10 rfl (by decide) [1, 2, 3, 0] rfl ?_
  have J11 : ∀ (n_ : Nat), ∀ (i_ : Nat) (hi_ : i_ ≤ 48) (hno : ∀ j, j < i_ → (psO s j 48 && decide (cntB (fun w => psO s w 48) j = k)) = false), 48 - i_ < n_ → G X 0 0 11 [(0, .ref u0), (1, .int (nI k)), (2, .int (nI (cntB (fun w => psO s w 48) i_))), (3, .int (nI i_))] [] [(u0, .inr (9, [.ref u1, .ref u2, .ref u3, .ref u4, .ref u5, .ref u6, .int (nI kn), .ref u7, .int (bB ik), .ref u8, .int (nI ty), .ref u9, .int (nI ta), .int (bB iw), .ref u10, .ref u11])), (u4, .inl ((TY D)[0].1, 6912, .inl SWT)), (u5, .inl ((TY D)[0].1, 208, .inl M))] := by
    intro n_
    induction n_ with
    | zero => intro i_ hi_ hno hm_; exact absurd hm_ (Nat.not_lt_zero _)
    | succ n_ ih_ =>
      intro i_ hi_ hno hm_
      have hcl := cntB_le (fun w => psO s w 48) i_
      refine g_iload_n O dX9_possible_11 3 rfl rfl ?_
      refine g_bipush (x := (nI 48)) O dX9_possible_12 (by decide +kernel) ?_
      refine g_icmp_geN (tgt := 41) O (by omega) (by omega) dX9_possible_14 (by decide) (fun c_2 => ?_) (fun c_2 => ?_)
      ·
        obtain rfl : i_ = 48 := by omega
        refine g_bipush (x := (-5)) O dX9_possible_41 (by decide +kernel) ?_
        exact E 43 _ (-5) _ dX9_possible_43 (by rw [fdB_none.mpr hno]; exact ⟨rfl, rfl⟩)
      ·
        refine g_aload_n O dX9_possible_17 0 rfl rfl ?_
        refine g_iload_n O dX9_possible_18 3 rfl rfl ?_
        refine g_callV (As := [.int (nI i_)]) (wr := []) O (kX9_isPossible l D z u0 u1 u2 u3 u4 u5 u6 u7 u8 u9 u10 u11 kn ik ty ta iw M s i_ (by first | assumption | omega) (by first | assumption | omega) (by first | assumption | omega) (by first | assumption | omega)) gX9_possible_X9_isPossible rfl rfl rfl 1 (by decide +kernel) (by decide) (by decide) (q0 := 0) rfl rfl rfl [0, 1, 2] [] rfl (by decide) rfl (by decide) (by decide) rfl rfl (Nat.le_of_ble_eq_true rfl) dX9_possible_19 (fun r_3 w_4 hp => ?_)
        obtain ⟨rfl, rfl⟩ := hp
        refine g_eq (st' := [.int (bB (psO s i_ 48))]) (ws' := [(u0, .inr (9, [.ref u1, .ref u2, .ref u3, .ref u4, .ref u5, .ref u6, .int (nI kn), .ref u7, .int (bB ik), .ref u8, .int (nI ty), .ref u9, .int (nI ta), .int (bB iw), .ref u10, .ref u11])), (u4, .inl ((TY D)[0].1, 6912, .inl SWT)), (u5, .inl ((TY D)[0].1, 208, .inl M))]) rfl rfl rfl ?_
        refine g_if_eqB (tgt := 35) O dX9_possible_22 (by decide) (fun c_5 => ?_) (fun c_5 => ?_)
        ·
          have hq := cntB_f (p := fun w => psO s w 48) c_5
          have hnj : (psO s i_ 48 && decide (cntB (fun w => psO s w 48) i_ = k)) = false := by rw [c_5]; rfl
          refine g_eq (L' := [(0, .ref u0), (1, .int (nI k)), (2, .int (nI (cntB (fun w => psO s w 48) (i_ + 1)))), (3, .int (nI i_))]) rfl (by rw [hq]) rfl ?_
          refine g_iincN (L' := [(0, .ref u0), (1, .int (nI k)), (2, .int (nI (cntB (fun w => psO s w 48) (i_ + 1)))), (3, .int (nI (i_ + 1)))]) O dX9_possible_35 3 rfl (by decide) [1, 2, 3, 0] rfl ?_
          refine g_goto (tgt := 11) O dX9_possible_38 (by decide) ?_
          exact ih_ (i_ + 1) (by first | assumption | omega | rfl) (fun j hj => by rcases Nat.lt_succ_iff_lt_or_eq.mp hj with h | h; exact hno j h; subst h; exact hnj) (by omega)
        ·
          have h22 := c_5
          have hq := cntB_t (p := fun w => psO s w 48) c_5
          refine g_iload_n O dX9_possible_25 2 rfl rfl ?_
          refine g_iload_n O dX9_possible_26 1 rfl rfl ?_
          refine g_icmp_neN (tgt := 32) O (by omega) (by omega) dX9_possible_27 (by decide) (fun c_6 => ?_) (fun c_6 => ?_)
          ·
            have hnj : (psO s i_ 48 && decide (cntB (fun w => psO s w 48) i_ = k)) = false := by rw [decide_eq_false c_6]; simp
            refine g_iincN (L' := [(0, .ref u0), (1, .int (nI k)), (2, .int (nI ((cntB (fun w => psO s w 48) i_) + 1))), (3, .int (nI i_))]) O dX9_possible_32 2 rfl (by decide) [1, 2, 0, 3] rfl ?_
            refine g_eq (L' := [(0, .ref u0), (1, .int (nI k)), (2, .int (nI (cntB (fun w => psO s w 48) (i_ + 1)))), (3, .int (nI i_))]) rfl (by rw [hq]) rfl ?_
            refine g_iincN (L' := [(0, .ref u0), (1, .int (nI k)), (2, .int (nI (cntB (fun w => psO s w 48) (i_ + 1)))), (3, .int (nI (i_ + 1)))]) O dX9_possible_35 3 rfl (by decide) [1, 2, 3, 0] rfl ?_
            refine g_goto (tgt := 11) O dX9_possible_38 (by decide) ?_
            exact ih_ (i_ + 1) (by first | assumption | omega | rfl) (fun j hj => by rcases Nat.lt_succ_iff_lt_or_eq.mp hj with h | h; exact hno j h; subst h; exact hnj) (by omega)
          ·
            have h27 := c_6
            refine g_iload_n O dX9_possible_30 3 rfl rfl ?_
            exact E 31 _ (nI i_) _ dX9_possible_31 (by rw [fdB_some.mpr ⟨by omega, by rw [h22, decide_eq_true (by omega)]; rfl, hno⟩]; exact ⟨rfl, rfl⟩)
  exact J11 _ 0 (Nat.zero_le _) (fun j hj => absurd hj (Nat.not_lt_zero _)) (Nat.lt_succ_self _)

set_option maxHeartbeats 4000000 in
set_option maxRecDepth 100000 in
theorem kX9_waiting_b1 (l : Launch) (D : va_G) (z : Nat × Nat × Nat) (u0 : Nat) (u1 : Nat) (u2 : Nat) (u3 : Nat) (u4 : Nat) (u5 : Nat) (u6 : Nat) (u7 : Nat) (u8 : Nat) (u9 : Nat) (u10 : Nat) (u11 : Nat) (kn : Nat) (ik : Bool) (ty : Nat) (ta : Nat) (iw : Bool) (j : Int32) (k : Int32) (hb : j < 0 ∨ k < 0 ∨ nI 3 < k) : CM l yX9_waiting wsX9_waiting ({ frames := 4, cells := 0, slots := 0, locals := 89 } : Room) D z [.ref u0, .int j, .int k] [(u0, .inr (9, [.ref u1, .ref u2, .ref u3, .ref u4, .ref u5, .ref u6, .int (nI kn), .ref u7, .int (bB ik), .ref u8, .int (nI ty), .ref u9, .int (nI ta), .int (bB iw), .ref u10, .ref u11]))] (fun r_ w_ => r_ = some (.int (-2)) ∧ w_ = [(u0, .inr (9, [.ref u1, .ref u2, .ref u3, .ref u4, .ref u5, .ref u6, .int (nI kn), .ref u7, .int (bB ik), .ref u8, .int (nI ty), .ref u9, .int (nI ta), .int (bB iw), .ref u10, .ref u11]))]) 0 0 := by
  refine CM_int (own := RX9) (cc := cX9_waiting) (maxL := 4) (L0 := [(0, .ref u0), (1, .int j), (2, .int k)]) (by decide) rfl rfl (Nat.le_of_ble_eq_true rfl) rfl (fun X O E => ?_)
  refine g_iload_n O dX9_waiting_0 1 rfl rfl ?_
  refine g_if_lt (tgt := 13) O dX9_waiting_1 (by decide) (fun c_1 => ?_) (fun c_1 => ?_)
  ·
    refine g_bipush (x := (-2)) O dX9_waiting_13 (by decide +kernel) ?_
    exact E 15 _ (-2) _ dX9_waiting_15 ⟨rfl, rfl⟩
  ·
    refine g_iload_n O dX9_waiting_4 2 rfl rfl ?_
    refine g_iconst (x := (nI 0)) O dX9_waiting_5 (by decide +kernel) ?_
    refine g_iconst (x := (nI 3)) O dX9_waiting_6 (by decide +kernel) ?_
    refine g_callS (As := [.int k, .int (nI 0), .int (nI 3)]) (wr := [(u0, .inr (9, [.ref u1, .ref u2, .ref u3, .ref u4, .ref u5, .ref u6, .int (nI kn), .ref u7, .int (bB ik), .ref u8, .int (nI ty), .ref u9, .int (nI ta), .int (bB iw), .ref u10, .ref u11]))]) O (kX9_in l D z k (nI 0) (nI 3) ) gX9_waiting_X9_in rfl rfl rfl 3 (by decide +kernel) (by decide) (by decide) [] [0] rfl (by decide) rfl (by decide) (by decide) rfl rfl (Nat.le_of_ble_eq_true rfl) dX9_waiting_7 (fun r_2 w_3 hp => ?_)
    obtain ⟨rfl, rfl⟩ := hp
    refine g_eq (st' := [.int (bB (inI k (nI 0) (nI 3)))]) (ws' := [(u0, .inr (9, [.ref u1, .ref u2, .ref u3, .ref u4, .ref u5, .ref u6, .int (nI kn), .ref u7, .int (bB ik), .ref u8, .int (nI ty), .ref u9, .int (nI ta), .int (bB iw), .ref u10, .ref u11]))]) rfl rfl rfl ?_
    refine g_if_neB (tgt := 16) O dX9_waiting_10 (by decide) (fun c_4 => absurd c_4 (by rw [inI_f (lo := nI 0) (hi := nI 3) (by rw [nI_0]; rcases hb with h | h | h; exact absurd h (by assumption); exact Or.inl h; exact Or.inr h)]; decide)) (fun c_4 => ?_)
    refine g_bipush (x := (-2)) O dX9_waiting_13 (by decide +kernel) ?_
    exact E 15 _ (-2) _ dX9_waiting_15 ⟨rfl, rfl⟩

theorem hiX9_waiting_X9 : ∀ w ∈ wsX90, w ∈ wsX9_waiting := by decide +kernel
set_option maxHeartbeats 4000000 in
set_option maxRecDepth 100000 in
theorem kX9_waiting_b2 (l : Launch) (D : va_G) (z : Nat × Nat × Nat) (u0 : Nat) (u1 : Nat) (u2 : Nat) (u3 : Nat) (u4 : Nat) (u5 : Nat) (u6 : Nat) (u7 : Nat) (u8 : Nat) (u9 : Nat) (u10 : Nat) (u11 : Nat) (kn : Nat) (ik : Bool) (ty : Nat) (ta : Nat) (iw : Bool) (M : Nat → Int32) (s : SV) (j : Nat) (k : Nat) (hj : j < 2147483648) (hk : k < 4) (hM : RM M s) (hps : sv_ps s ≤ 16) (hb : sv_ps s ≤ j) : CM l yX9_waiting wsX9_waiting ({ frames := 4, cells := 0, slots := 0, locals := 89 } : Room) D z [.ref u0, .int (nI j), .int (nI k)] [(u0, .inr (9, [.ref u1, .ref u2, .ref u3, .ref u4, .ref u5, .ref u6, .int (nI kn), .ref u7, .int (bB ik), .ref u8, .int (nI ty), .ref u9, .int (nI ta), .int (bB iw), .ref u10, .ref u11])), (u5, .inl ((TY D)[0].1, 208, .inl M))] (fun r_ w_ => r_ = some (.int (-5)) ∧ w_ = [(u0, .inr (9, [.ref u1, .ref u2, .ref u3, .ref u4, .ref u5, .ref u6, .int (nI kn), .ref u7, .int (bB ik), .ref u8, .int (nI ty), .ref u9, .int (nI ta), .int (bB iw), .ref u10, .ref u11])), (u5, .inl ((TY D)[0].1, 208, .inl M))]) 0 0 := by
  refine CM_int (own := RX9) (cc := cX9_waiting) (maxL := 4) (L0 := [(0, .ref u0), (1, .int (nI j)), (2, .int (nI k))]) (by decide) rfl rfl (Nat.le_of_ble_eq_true rfl) rfl (fun X O E => ?_)
  refine g_iload_n O dX9_waiting_0 1 rfl rfl ?_
  refine g_if_ltN (tgt := 13) O (by omega) dX9_waiting_1 (by decide) ?_
  refine g_iload_n O dX9_waiting_4 2 rfl rfl ?_
  refine g_iconst (x := (nI 0)) O dX9_waiting_5 (by decide +kernel) ?_
  refine g_iconst (x := (nI 3)) O dX9_waiting_6 (by decide +kernel) ?_
  refine g_callS (As := [.int (nI k), .int (nI 0), .int (nI 3)]) (wr := [(u0, .inr (9, [.ref u1, .ref u2, .ref u3, .ref u4, .ref u5, .ref u6, .int (nI kn), .ref u7, .int (bB ik), .ref u8, .int (nI ty), .ref u9, .int (nI ta), .int (bB iw), .ref u10, .ref u11])), (u5, .inl ((TY D)[0].1, 208, .inl M))]) O (kX9_in l D z (nI k) (nI 0) (nI 3) ) gX9_waiting_X9_in rfl rfl rfl 3 (by decide +kernel) (by decide) (by decide) [] [0, 1] rfl (by decide) rfl (by decide) (by decide) rfl rfl (Nat.le_of_ble_eq_true rfl) dX9_waiting_7 (fun r_2 w_3 hp => ?_)
  obtain ⟨rfl, rfl⟩ := hp
  refine g_eq (st' := [.int (bB (inI (nI k) (nI 0) (nI 3)))]) (ws' := [(u0, .inr (9, [.ref u1, .ref u2, .ref u3, .ref u4, .ref u5, .ref u6, .int (nI kn), .ref u7, .int (bB ik), .ref u8, .int (nI ty), .ref u9, .int (nI ta), .int (bB iw), .ref u10, .ref u11])), (u5, .inl ((TY D)[0].1, 208, .inl M))]) rfl rfl rfl ?_
  refine g_if_neB (tgt := 16) O dX9_waiting_10 (by decide) (fun c_4 => ?_) (fun c_4 => absurd c_4 (by rw [inI_t (nI_le (a := 0) (by omega) (by omega)) (nI_le (b := 3) (by omega) (by omega))]; decide))
  refine g_iload_n O dX9_waiting_16 1 rfl rfl ?_
  refine g_aload_n O dX9_waiting_17 0 rfl rfl ?_
  refine g_get O hiX9_waiting_X9 0 rfl rfl 4 (by decide) (by decide +kernel) rfl dX9_waiting_18 ?_
  refine g_sipush (x := (nI 159)) O dX9_waiting_21 (by decide +kernel) ?_
  refine g_ialdN O 1 rfl (by omega) (by omega) dX9_waiting_24 ?_
  refine g_eq (st' := [.int (nI (sv_ps s)), .int (nI j)]) (by rw [RM_ps hM]) rfl rfl ?_
  refine g_icmp_ltN (tgt := 31) O (by omega) (by omega) dX9_waiting_25 (by decide) (fun c_5 => (by exfalso; omega)) (fun c_5 => ?_)
  refine g_bipush (x := (-5)) O dX9_waiting_28 (by decide +kernel) ?_
  exact E 30 _ (-5) _ dX9_waiting_30 ⟨rfl, rfl⟩

set_option maxHeartbeats 4000000 in
set_option maxRecDepth 100000 in
theorem kX9_waiting_0 (l : Launch) (D : va_G) (z : Nat × Nat × Nat) (u0 : Nat) (u1 : Nat) (u2 : Nat) (u3 : Nat) (u4 : Nat) (u5 : Nat) (u6 : Nat) (u7 : Nat) (u8 : Nat) (u9 : Nat) (u10 : Nat) (u11 : Nat) (kn : Nat) (ik : Bool) (ty : Nat) (ta : Nat) (iw : Bool) (M : Nat → Int32) (s : SV) (j : Nat) (hM : RM M s) (hps : sv_ps s ≤ 16) (hb : j < sv_ps s) : CM l yX9_waiting wsX9_waiting ({ frames := 4, cells := 0, slots := 0, locals := 89 } : Room) D z [.ref u0, .int (nI j), .int (nI 0)] [(u0, .inr (9, [.ref u1, .ref u2, .ref u3, .ref u4, .ref u5, .ref u6, .int (nI kn), .ref u7, .int (bB ik), .ref u8, .int (nI ty), .ref u9, .int (nI ta), .int (bB iw), .ref u10, .ref u11])), (u5, .inl ((TY D)[0].1, 208, .inl M))] (fun r_ w_ => r_ = some (.int (nI (sv_fs s j))) ∧ w_ = [(u0, .inr (9, [.ref u1, .ref u2, .ref u3, .ref u4, .ref u5, .ref u6, .int (nI kn), .ref u7, .int (bB ik), .ref u8, .int (nI ty), .ref u9, .int (nI ta), .int (bB iw), .ref u10, .ref u11])), (u5, .inl ((TY D)[0].1, 208, .inl M))]) 0 0 := by
  refine CM_int (own := RX9) (cc := cX9_waiting) (maxL := 4) (L0 := [(0, .ref u0), (1, .int (nI j)), (2, .int (nI 0))]) (by decide) rfl rfl (Nat.le_of_ble_eq_true rfl) rfl (fun X O E => ?_)
  refine g_iload_n O dX9_waiting_0 1 rfl rfl ?_
  refine g_if_ltN (tgt := 13) O (by omega) dX9_waiting_1 (by decide) ?_
  refine g_iload_n O dX9_waiting_4 2 rfl rfl ?_
  refine g_iconst (x := (nI 0)) O dX9_waiting_5 (by decide +kernel) ?_
  refine g_iconst (x := (nI 3)) O dX9_waiting_6 (by decide +kernel) ?_
  refine g_callS (As := [.int (nI 0), .int (nI 0), .int (nI 3)]) (wr := [(u0, .inr (9, [.ref u1, .ref u2, .ref u3, .ref u4, .ref u5, .ref u6, .int (nI kn), .ref u7, .int (bB ik), .ref u8, .int (nI ty), .ref u9, .int (nI ta), .int (bB iw), .ref u10, .ref u11])), (u5, .inl ((TY D)[0].1, 208, .inl M))]) O (kX9_in l D z (nI 0) (nI 0) (nI 3) ) gX9_waiting_X9_in rfl rfl rfl 3 (by decide +kernel) (by decide) (by decide) [] [0, 1] rfl (by decide) rfl (by decide) (by decide) rfl rfl (Nat.le_of_ble_eq_true rfl) dX9_waiting_7 (fun r_2 w_3 hp => ?_)
  obtain ⟨rfl, rfl⟩ := hp
  refine g_eq (st' := [.int (bB (inI (nI 0) (nI 0) (nI 3)))]) (ws' := [(u0, .inr (9, [.ref u1, .ref u2, .ref u3, .ref u4, .ref u5, .ref u6, .int (nI kn), .ref u7, .int (bB ik), .ref u8, .int (nI ty), .ref u9, .int (nI ta), .int (bB iw), .ref u10, .ref u11])), (u5, .inl ((TY D)[0].1, 208, .inl M))]) rfl rfl rfl ?_
  refine g_if_neB (tgt := 16) O dX9_waiting_10 (by decide) (fun c_4 => ?_) (fun c_4 => absurd c_4 (by decide))
  refine g_iload_n O dX9_waiting_16 1 rfl rfl ?_
  refine g_aload_n O dX9_waiting_17 0 rfl rfl ?_
  refine g_get O hiX9_waiting_X9 0 rfl rfl 4 (by decide) (by decide +kernel) rfl dX9_waiting_18 ?_
  refine g_sipush (x := (nI 159)) O dX9_waiting_21 (by decide +kernel) ?_
  refine g_ialdN O 1 rfl (by omega) (by omega) dX9_waiting_24 ?_
  refine g_eq (st' := [.int (nI (sv_ps s)), .int (nI j)]) (by rw [RM_ps hM]) rfl rfl ?_
  refine g_icmp_ltN (tgt := 31) O (by omega) (by omega) dX9_waiting_25 (by decide) (fun c_5 => ?_) (fun c_5 => (by exfalso; omega))
  refine g_sipush (x := (nI 160)) O dX9_waiting_31 (by decide +kernel) ?_
  refine g_iconst (x := (nI 3)) O dX9_waiting_34 (by decide +kernel) ?_
  refine g_iload_n O dX9_waiting_35 1 rfl rfl ?_
  refine g_imulN O dX9_waiting_36 ?_
  refine g_iaddN O dX9_waiting_37 ?_
  refine g_istore_n (L' := [(0, .ref u0), (1, .int (nI j)), (2, .int (nI 0)), (3, .int (nI (160 + (3 * j))))]) O dX9_waiting_38 rfl (by decide) [1, 2, 3, 0] rfl ?_
  refine g_iload_n O dX9_waiting_39 2 rfl rfl ?_
  refine g_iconst (x := (nI 3)) O dX9_waiting_40 (by decide +kernel) ?_
  refine g_icmp_geN (tgt := 55) O (by omega) (by omega) dX9_waiting_41 (by decide) (fun c_6 => absurd c_6 (by decide)) (fun c_6 => ?_)
  refine g_aload_n O dX9_waiting_44 0 rfl rfl ?_
  refine g_get O hiX9_waiting_X9 0 rfl rfl 4 (by decide) (by decide +kernel) rfl dX9_waiting_45 ?_
  refine g_iload_n O dX9_waiting_48 3 rfl rfl ?_
  refine g_iload_n O dX9_waiting_49 2 rfl rfl ?_
  refine g_iaddN O dX9_waiting_50 ?_
  refine g_ialdN O 1 rfl (by omega) (by omega) dX9_waiting_51 ?_
  refine g_eq (st' := [.int (nI (sv_fs s j))]) (by rw [(RM_b hM hb).1]) rfl rfl ?_
  refine g_goto (tgt := 76) O dX9_waiting_52 (by decide) ?_
  exact E 76 _ (nI (sv_fs s j)) _ dX9_waiting_76 ⟨rfl, rfl⟩

set_option maxHeartbeats 4000000 in
set_option maxRecDepth 100000 in
theorem kX9_waiting_1 (l : Launch) (D : va_G) (z : Nat × Nat × Nat) (u0 : Nat) (u1 : Nat) (u2 : Nat) (u3 : Nat) (u4 : Nat) (u5 : Nat) (u6 : Nat) (u7 : Nat) (u8 : Nat) (u9 : Nat) (u10 : Nat) (u11 : Nat) (kn : Nat) (ik : Bool) (ty : Nat) (ta : Nat) (iw : Bool) (M : Nat → Int32) (s : SV) (j : Nat) (hM : RM M s) (hps : sv_ps s ≤ 16) (hb : j < sv_ps s) : CM l yX9_waiting wsX9_waiting ({ frames := 4, cells := 0, slots := 0, locals := 89 } : Room) D z [.ref u0, .int (nI j), .int (nI 1)] [(u0, .inr (9, [.ref u1, .ref u2, .ref u3, .ref u4, .ref u5, .ref u6, .int (nI kn), .ref u7, .int (bB ik), .ref u8, .int (nI ty), .ref u9, .int (nI ta), .int (bB iw), .ref u10, .ref u11])), (u5, .inl ((TY D)[0].1, 208, .inl M))] (fun r_ w_ => r_ = some (.int (nI (sv_fa s j))) ∧ w_ = [(u0, .inr (9, [.ref u1, .ref u2, .ref u3, .ref u4, .ref u5, .ref u6, .int (nI kn), .ref u7, .int (bB ik), .ref u8, .int (nI ty), .ref u9, .int (nI ta), .int (bB iw), .ref u10, .ref u11])), (u5, .inl ((TY D)[0].1, 208, .inl M))]) 0 0 := by
  refine CM_int (own := RX9) (cc := cX9_waiting) (maxL := 4) (L0 := [(0, .ref u0), (1, .int (nI j)), (2, .int (nI 1))]) (by decide) rfl rfl (Nat.le_of_ble_eq_true rfl) rfl (fun X O E => ?_)
  refine g_iload_n O dX9_waiting_0 1 rfl rfl ?_
  refine g_if_ltN (tgt := 13) O (by omega) dX9_waiting_1 (by decide) ?_
  refine g_iload_n O dX9_waiting_4 2 rfl rfl ?_
  refine g_iconst (x := (nI 0)) O dX9_waiting_5 (by decide +kernel) ?_
  refine g_iconst (x := (nI 3)) O dX9_waiting_6 (by decide +kernel) ?_
  refine g_callS (As := [.int (nI 1), .int (nI 0), .int (nI 3)]) (wr := [(u0, .inr (9, [.ref u1, .ref u2, .ref u3, .ref u4, .ref u5, .ref u6, .int (nI kn), .ref u7, .int (bB ik), .ref u8, .int (nI ty), .ref u9, .int (nI ta), .int (bB iw), .ref u10, .ref u11])), (u5, .inl ((TY D)[0].1, 208, .inl M))]) O (kX9_in l D z (nI 1) (nI 0) (nI 3) ) gX9_waiting_X9_in rfl rfl rfl 3 (by decide +kernel) (by decide) (by decide) [] [0, 1] rfl (by decide) rfl (by decide) (by decide) rfl rfl (Nat.le_of_ble_eq_true rfl) dX9_waiting_7 (fun r_2 w_3 hp => ?_)
  obtain ⟨rfl, rfl⟩ := hp
  refine g_eq (st' := [.int (bB (inI (nI 1) (nI 0) (nI 3)))]) (ws' := [(u0, .inr (9, [.ref u1, .ref u2, .ref u3, .ref u4, .ref u5, .ref u6, .int (nI kn), .ref u7, .int (bB ik), .ref u8, .int (nI ty), .ref u9, .int (nI ta), .int (bB iw), .ref u10, .ref u11])), (u5, .inl ((TY D)[0].1, 208, .inl M))]) rfl rfl rfl ?_
  refine g_if_neB (tgt := 16) O dX9_waiting_10 (by decide) (fun c_4 => ?_) (fun c_4 => absurd c_4 (by decide))
  refine g_iload_n O dX9_waiting_16 1 rfl rfl ?_
  refine g_aload_n O dX9_waiting_17 0 rfl rfl ?_
  refine g_get O hiX9_waiting_X9 0 rfl rfl 4 (by decide) (by decide +kernel) rfl dX9_waiting_18 ?_
  refine g_sipush (x := (nI 159)) O dX9_waiting_21 (by decide +kernel) ?_
  refine g_ialdN O 1 rfl (by omega) (by omega) dX9_waiting_24 ?_
  refine g_eq (st' := [.int (nI (sv_ps s)), .int (nI j)]) (by rw [RM_ps hM]) rfl rfl ?_
  refine g_icmp_ltN (tgt := 31) O (by omega) (by omega) dX9_waiting_25 (by decide) (fun c_5 => ?_) (fun c_5 => (by exfalso; omega))
  refine g_sipush (x := (nI 160)) O dX9_waiting_31 (by decide +kernel) ?_
  refine g_iconst (x := (nI 3)) O dX9_waiting_34 (by decide +kernel) ?_
  refine g_iload_n O dX9_waiting_35 1 rfl rfl ?_
  refine g_imulN O dX9_waiting_36 ?_
  refine g_iaddN O dX9_waiting_37 ?_
  refine g_istore_n (L' := [(0, .ref u0), (1, .int (nI j)), (2, .int (nI 1)), (3, .int (nI (160 + (3 * j))))]) O dX9_waiting_38 rfl (by decide) [1, 2, 3, 0] rfl ?_
  refine g_iload_n O dX9_waiting_39 2 rfl rfl ?_
  refine g_iconst (x := (nI 3)) O dX9_waiting_40 (by decide +kernel) ?_
  refine g_icmp_geN (tgt := 55) O (by omega) (by omega) dX9_waiting_41 (by decide) (fun c_6 => absurd c_6 (by decide)) (fun c_6 => ?_)
  refine g_aload_n O dX9_waiting_44 0 rfl rfl ?_
  refine g_get O hiX9_waiting_X9 0 rfl rfl 4 (by decide) (by decide +kernel) rfl dX9_waiting_45 ?_
  refine g_iload_n O dX9_waiting_48 3 rfl rfl ?_
  refine g_iload_n O dX9_waiting_49 2 rfl rfl ?_
  refine g_iaddN O dX9_waiting_50 ?_
  refine g_ialdN O 1 rfl (by omega) (by omega) dX9_waiting_51 ?_
  refine g_eq (st' := [.int (nI (sv_fa s j))]) (by rw [(RM_b hM hb).2.1]) rfl rfl ?_
  refine g_goto (tgt := 76) O dX9_waiting_52 (by decide) ?_
  exact E 76 _ (nI (sv_fa s j)) _ dX9_waiting_76 ⟨rfl, rfl⟩

set_option maxHeartbeats 4000000 in
set_option maxRecDepth 100000 in
theorem kX9_waiting_2 (l : Launch) (D : va_G) (z : Nat × Nat × Nat) (u0 : Nat) (u1 : Nat) (u2 : Nat) (u3 : Nat) (u4 : Nat) (u5 : Nat) (u6 : Nat) (u7 : Nat) (u8 : Nat) (u9 : Nat) (u10 : Nat) (u11 : Nat) (kn : Nat) (ik : Bool) (ty : Nat) (ta : Nat) (iw : Bool) (M : Nat → Int32) (s : SV) (j : Nat) (hM : RM M s) (hps : sv_ps s ≤ 16) (hb : j < sv_ps s) : CM l yX9_waiting wsX9_waiting ({ frames := 4, cells := 0, slots := 0, locals := 89 } : Room) D z [.ref u0, .int (nI j), .int (nI 2)] [(u0, .inr (9, [.ref u1, .ref u2, .ref u3, .ref u4, .ref u5, .ref u6, .int (nI kn), .ref u7, .int (bB ik), .ref u8, .int (nI ty), .ref u9, .int (nI ta), .int (bB iw), .ref u10, .ref u11])), (u5, .inl ((TY D)[0].1, 208, .inl M))] (fun r_ w_ => r_ = some (.int (nI (sv_fk s j))) ∧ w_ = [(u0, .inr (9, [.ref u1, .ref u2, .ref u3, .ref u4, .ref u5, .ref u6, .int (nI kn), .ref u7, .int (bB ik), .ref u8, .int (nI ty), .ref u9, .int (nI ta), .int (bB iw), .ref u10, .ref u11])), (u5, .inl ((TY D)[0].1, 208, .inl M))]) 0 0 := by
  refine CM_int (own := RX9) (cc := cX9_waiting) (maxL := 4) (L0 := [(0, .ref u0), (1, .int (nI j)), (2, .int (nI 2))]) (by decide) rfl rfl (Nat.le_of_ble_eq_true rfl) rfl (fun X O E => ?_)
  refine g_iload_n O dX9_waiting_0 1 rfl rfl ?_
  refine g_if_ltN (tgt := 13) O (by omega) dX9_waiting_1 (by decide) ?_
  refine g_iload_n O dX9_waiting_4 2 rfl rfl ?_
  refine g_iconst (x := (nI 0)) O dX9_waiting_5 (by decide +kernel) ?_
  refine g_iconst (x := (nI 3)) O dX9_waiting_6 (by decide +kernel) ?_
  refine g_callS (As := [.int (nI 2), .int (nI 0), .int (nI 3)]) (wr := [(u0, .inr (9, [.ref u1, .ref u2, .ref u3, .ref u4, .ref u5, .ref u6, .int (nI kn), .ref u7, .int (bB ik), .ref u8, .int (nI ty), .ref u9, .int (nI ta), .int (bB iw), .ref u10, .ref u11])), (u5, .inl ((TY D)[0].1, 208, .inl M))]) O (kX9_in l D z (nI 2) (nI 0) (nI 3) ) gX9_waiting_X9_in rfl rfl rfl 3 (by decide +kernel) (by decide) (by decide) [] [0, 1] rfl (by decide) rfl (by decide) (by decide) rfl rfl (Nat.le_of_ble_eq_true rfl) dX9_waiting_7 (fun r_2 w_3 hp => ?_)
  obtain ⟨rfl, rfl⟩ := hp
  refine g_eq (st' := [.int (bB (inI (nI 2) (nI 0) (nI 3)))]) (ws' := [(u0, .inr (9, [.ref u1, .ref u2, .ref u3, .ref u4, .ref u5, .ref u6, .int (nI kn), .ref u7, .int (bB ik), .ref u8, .int (nI ty), .ref u9, .int (nI ta), .int (bB iw), .ref u10, .ref u11])), (u5, .inl ((TY D)[0].1, 208, .inl M))]) rfl rfl rfl ?_
  refine g_if_neB (tgt := 16) O dX9_waiting_10 (by decide) (fun c_4 => ?_) (fun c_4 => absurd c_4 (by decide))
  refine g_iload_n O dX9_waiting_16 1 rfl rfl ?_
  refine g_aload_n O dX9_waiting_17 0 rfl rfl ?_
  refine g_get O hiX9_waiting_X9 0 rfl rfl 4 (by decide) (by decide +kernel) rfl dX9_waiting_18 ?_
  refine g_sipush (x := (nI 159)) O dX9_waiting_21 (by decide +kernel) ?_
  refine g_ialdN O 1 rfl (by omega) (by omega) dX9_waiting_24 ?_
  refine g_eq (st' := [.int (nI (sv_ps s)), .int (nI j)]) (by rw [RM_ps hM]) rfl rfl ?_
  refine g_icmp_ltN (tgt := 31) O (by omega) (by omega) dX9_waiting_25 (by decide) (fun c_5 => ?_) (fun c_5 => (by exfalso; omega))
  refine g_sipush (x := (nI 160)) O dX9_waiting_31 (by decide +kernel) ?_
  refine g_iconst (x := (nI 3)) O dX9_waiting_34 (by decide +kernel) ?_
  refine g_iload_n O dX9_waiting_35 1 rfl rfl ?_
  refine g_imulN O dX9_waiting_36 ?_
  refine g_iaddN O dX9_waiting_37 ?_
  refine g_istore_n (L' := [(0, .ref u0), (1, .int (nI j)), (2, .int (nI 2)), (3, .int (nI (160 + (3 * j))))]) O dX9_waiting_38 rfl (by decide) [1, 2, 3, 0] rfl ?_
  refine g_iload_n O dX9_waiting_39 2 rfl rfl ?_
  refine g_iconst (x := (nI 3)) O dX9_waiting_40 (by decide +kernel) ?_
  refine g_icmp_geN (tgt := 55) O (by omega) (by omega) dX9_waiting_41 (by decide) (fun c_6 => absurd c_6 (by decide)) (fun c_6 => ?_)
  refine g_aload_n O dX9_waiting_44 0 rfl rfl ?_
  refine g_get O hiX9_waiting_X9 0 rfl rfl 4 (by decide) (by decide +kernel) rfl dX9_waiting_45 ?_
  refine g_iload_n O dX9_waiting_48 3 rfl rfl ?_
  refine g_iload_n O dX9_waiting_49 2 rfl rfl ?_
  refine g_iaddN O dX9_waiting_50 ?_
  refine g_ialdN O 1 rfl (by omega) (by omega) dX9_waiting_51 ?_
  refine g_eq (st' := [.int (nI (sv_fk s j))]) (by rw [(RM_b hM hb).2.2]) rfl rfl ?_
  refine g_goto (tgt := 76) O dX9_waiting_52 (by decide) ?_
  exact E 76 _ (nI (sv_fk s j)) _ dX9_waiting_76 ⟨rfl, rfl⟩

set_option maxHeartbeats 4000000 in
set_option maxRecDepth 100000 in
theorem kX9_waiting_3 (l : Launch) (D : va_G) (z : Nat × Nat × Nat) (u0 : Nat) (u1 : Nat) (u2 : Nat) (u3 : Nat) (u4 : Nat) (u5 : Nat) (u6 : Nat) (u7 : Nat) (u8 : Nat) (u9 : Nat) (u10 : Nat) (u11 : Nat) (kn : Nat) (ik : Bool) (ty : Nat) (ta : Nat) (iw : Bool) (M : Nat → Int32) (s : SV) (j : Nat) (hM : RM M s) (hnc : sv_nc s ≤ 4) (hcc : ∀ j, j < sv_nc s → sv_cc s j < 12 ∧ sv_cr s j < 12) (hps : sv_ps s ≤ 16) (hpc : ∀ j, j < sv_ps s → sv_fs s j < 4 ∧ sv_fa s j < 12 ∧ 1 ≤ sv_fk s j ∧ sv_fk s j ≤ 20) (hb : j < sv_ps s) : CM l yX9_waiting wsX9_waiting ({ frames := 4, cells := 0, slots := 0, locals := 89 } : Room) D z [.ref u0, .int (nI j), .int (nI 3)] [(u0, .inr (9, [.ref u1, .ref u2, .ref u3, .ref u4, .ref u5, .ref u6, .int (nI kn), .ref u7, .int (bB ik), .ref u8, .int (nI ty), .ref u9, .int (nI ta), .int (bB iw), .ref u10, .ref u11])), (u4, .inl ((TY D)[0].1, 6912, .inl SWT)), (u5, .inl ((TY D)[0].1, 208, .inl M))] (fun r_ w_ => r_ = some (.int (orN (wyO s (bpN (sv_fs s j) (sv_fa s j))))) ∧ w_ = [(u0, .inr (9, [.ref u1, .ref u2, .ref u3, .ref u4, .ref u5, .ref u6, .int (nI kn), .ref u7, .int (bB ik), .ref u8, .int (nI ty), .ref u9, .int (nI ta), .int (bB iw), .ref u10, .ref u11])), (u4, .inl ((TY D)[0].1, 6912, .inl SWT)), (u5, .inl ((TY D)[0].1, 208, .inl M))]) 0 0 := by
  refine CM_int (own := RX9) (cc := cX9_waiting) (maxL := 4) (L0 := [(0, .ref u0), (1, .int (nI j)), (2, .int (nI 3))]) (by decide) rfl rfl (Nat.le_of_ble_eq_true rfl) rfl (fun X O E => ?_)
  have hpj := hpc j hb
  refine g_iload_n O dX9_waiting_0 1 rfl rfl ?_
  refine g_if_ltN (tgt := 13) O (by omega) dX9_waiting_1 (by decide) ?_
  refine g_iload_n O dX9_waiting_4 2 rfl rfl ?_
  refine g_iconst (x := (nI 0)) O dX9_waiting_5 (by decide +kernel) ?_
  refine g_iconst (x := (nI 3)) O dX9_waiting_6 (by decide +kernel) ?_
  refine g_callS (As := [.int (nI 3), .int (nI 0), .int (nI 3)]) (wr := [(u0, .inr (9, [.ref u1, .ref u2, .ref u3, .ref u4, .ref u5, .ref u6, .int (nI kn), .ref u7, .int (bB ik), .ref u8, .int (nI ty), .ref u9, .int (nI ta), .int (bB iw), .ref u10, .ref u11])), (u4, .inl ((TY D)[0].1, 6912, .inl SWT)), (u5, .inl ((TY D)[0].1, 208, .inl M))]) O (kX9_in l D z (nI 3) (nI 0) (nI 3) ) gX9_waiting_X9_in rfl rfl rfl 3 (by decide +kernel) (by decide) (by decide) [] [0, 1, 2] rfl (by decide) rfl (by decide) (by decide) rfl rfl (Nat.le_of_ble_eq_true rfl) dX9_waiting_7 (fun r_2 w_3 hp => ?_)
  obtain ⟨rfl, rfl⟩ := hp
  refine g_eq (st' := [.int (bB (inI (nI 3) (nI 0) (nI 3)))]) (ws' := [(u0, .inr (9, [.ref u1, .ref u2, .ref u3, .ref u4, .ref u5, .ref u6, .int (nI kn), .ref u7, .int (bB ik), .ref u8, .int (nI ty), .ref u9, .int (nI ta), .int (bB iw), .ref u10, .ref u11])), (u4, .inl ((TY D)[0].1, 6912, .inl SWT)), (u5, .inl ((TY D)[0].1, 208, .inl M))]) rfl rfl rfl ?_
  refine g_if_neB (tgt := 16) O dX9_waiting_10 (by decide) (fun c_4 => ?_) (fun c_4 => absurd c_4 (by decide))
  refine g_iload_n O dX9_waiting_16 1 rfl rfl ?_
  refine g_aload_n O dX9_waiting_17 0 rfl rfl ?_
  refine g_get O hiX9_waiting_X9 0 rfl rfl 4 (by decide) (by decide +kernel) rfl dX9_waiting_18 ?_
  refine g_sipush (x := (nI 159)) O dX9_waiting_21 (by decide +kernel) ?_
  refine g_ialdN O 2 rfl (by omega) (by omega) dX9_waiting_24 ?_
  refine g_eq (st' := [.int (nI (sv_ps s)), .int (nI j)]) (by rw [RM_ps hM]) rfl rfl ?_
  refine g_icmp_ltN (tgt := 31) O (by omega) (by omega) dX9_waiting_25 (by decide) (fun c_5 => ?_) (fun c_5 => (by exfalso; omega))
  refine g_sipush (x := (nI 160)) O dX9_waiting_31 (by decide +kernel) ?_
  refine g_iconst (x := (nI 3)) O dX9_waiting_34 (by decide +kernel) ?_
  refine g_iload_n O dX9_waiting_35 1 rfl rfl ?_
  refine g_imulN O dX9_waiting_36 ?_
  refine g_iaddN O dX9_waiting_37 ?_
  refine g_istore_n (L' := [(0, .ref u0), (1, .int (nI j)), (2, .int (nI 3)), (3, .int (nI (160 + (3 * j))))]) O dX9_waiting_38 rfl (by decide) [1, 2, 3, 0] rfl ?_
  refine g_iload_n O dX9_waiting_39 2 rfl rfl ?_
  refine g_iconst (x := (nI 3)) O dX9_waiting_40 (by decide +kernel) ?_
  refine g_icmp_geN (tgt := 55) O (by omega) (by omega) dX9_waiting_41 (by decide) (fun c_6 => ?_) (fun c_6 => absurd c_6 (by decide))
  refine g_aload_n O dX9_waiting_55 0 rfl rfl ?_
  refine g_aload_n O dX9_waiting_56 0 rfl rfl ?_
  refine g_get O hiX9_waiting_X9 0 rfl rfl 4 (by decide) (by decide +kernel) rfl dX9_waiting_57 ?_
  refine g_iload_n O dX9_waiting_60 3 rfl rfl ?_
  refine g_ialdN O 2 rfl (by omega) (by omega) dX9_waiting_61 ?_
  refine g_eq (st' := [.int (nI (sv_fs s j)), .ref u0]) (by rw [(RM_b hM hb).1]) rfl rfl ?_
  refine g_aload_n O dX9_waiting_62 0 rfl rfl ?_
  refine g_get O hiX9_waiting_X9 0 rfl rfl 4 (by decide) (by decide +kernel) rfl dX9_waiting_63 ?_
  refine g_iload_n O dX9_waiting_66 3 rfl rfl ?_
  refine g_iconst (x := (nI 1)) O dX9_waiting_67 (by decide +kernel) ?_
  refine g_iaddN O dX9_waiting_68 ?_
  refine g_ialdN O 2 rfl (by omega) (by omega) dX9_waiting_69 ?_
  refine g_eq (st' := [.int (nI (sv_fa s j)), .int (nI (sv_fs s j)), .ref u0]) (by rw [(RM_b hM hb).2.1]) rfl rfl ?_
  refine g_callS (As := [.int (nI (sv_fs s j)), .int (nI (sv_fa s j))]) (wr := [(u0, .inr (9, [.ref u1, .ref u2, .ref u3, .ref u4, .ref u5, .ref u6, .int (nI kn), .ref u7, .int (bB ik), .ref u8, .int (nI ty), .ref u9, .int (nI ta), .int (bB iw), .ref u10, .ref u11])), (u4, .inl ((TY D)[0].1, 6912, .inl SWT)), (u5, .inl ((TY D)[0].1, 208, .inl M))]) O (kX9_bowPlace l D z (sv_fs s j) (sv_fa s j) (by first | assumption | exact hpj.1)) gX9_waiting_X9_bowPlace rfl rfl rfl 2 (by decide +kernel) (by decide) (by decide) [] [0, 1, 2] rfl (by decide) rfl (by decide) (by decide) rfl rfl (Nat.le_of_ble_eq_true rfl) dX9_waiting_70 (fun r_7 w_8 hp => ?_)
  obtain ⟨rfl, rfl⟩ := hp
  refine g_eq (st' := [.int (nI (bpN (sv_fs s j) (sv_fa s j))), .ref u0]) (ws' := [(u0, .inr (9, [.ref u1, .ref u2, .ref u3, .ref u4, .ref u5, .ref u6, .int (nI kn), .ref u7, .int (bB ik), .ref u8, .int (nI ty), .ref u9, .int (nI ta), .int (bB iw), .ref u10, .ref u11])), (u4, .inl ((TY D)[0].1, 6912, .inl SWT)), (u5, .inl ((TY D)[0].1, 208, .inl M))]) rfl rfl rfl ?_
  refine g_callV (As := [.int (nI (bpN (sv_fs s j) (sv_fa s j)))]) (wr := []) O (kX9_soundsAt l D z u0 u1 u2 u3 u4 u5 u6 u7 u8 u9 u10 u11 kn ik ty ta iw M s (bpN (sv_fs s j) (sv_fa s j)) (by first | assumption | exact bpN_lt hpj.2.1) (by first | assumption | exact bpN_lt hpj.2.1) (by first | assumption | exact bpN_lt hpj.2.1) (by first | assumption | exact bpN_lt hpj.2.1)) gX9_waiting_X9_soundsAt rfl rfl rfl 1 (by decide +kernel) (by decide) (by decide) (q0 := 0) rfl rfl rfl [0, 1, 2] [] rfl (by decide) rfl (by decide) (by decide) rfl rfl (Nat.le_of_ble_eq_true rfl) dX9_waiting_73 (fun r_9 w_10 hp => ?_)
  obtain ⟨rfl, rfl⟩ := hp
  refine g_eq (st' := [.int (orN (wyO s (bpN (sv_fs s j) (sv_fa s j))))]) (ws' := [(u0, .inr (9, [.ref u1, .ref u2, .ref u3, .ref u4, .ref u5, .ref u6, .int (nI kn), .ref u7, .int (bB ik), .ref u8, .int (nI ty), .ref u9, .int (nI ta), .int (bB iw), .ref u10, .ref u11])), (u4, .inl ((TY D)[0].1, 6912, .inl SWT)), (u5, .inl ((TY D)[0].1, 208, .inl M))]) rfl rfl rfl ?_
  exact E 76 _ (orN (wyO s (bpN (sv_fs s j) (sv_fa s j)))) _ dX9_waiting_76 ⟨rfl, rfl⟩

set_option maxHeartbeats 4000000 in
set_option maxRecDepth 100000 in
theorem kX9_sand_b1 (l : Launch) (D : va_G) (z : Nat × Nat × Nat) (u0 : Nat) (u1 : Nat) (u2 : Nat) (u3 : Nat) (u4 : Nat) (u5 : Nat) (u6 : Nat) (u7 : Nat) (u8 : Nat) (u9 : Nat) (u10 : Nat) (u11 : Nat) (kn : Nat) (ik : Bool) (ty : Nat) (ta : Nat) (iw : Bool) (r : Bool) (x : Int32) (hb : rgB x 12 = false) : CM l yX9_sand wsX9_sand ({ frames := 1, cells := 0, slots := 0, locals := 22 } : Room) D z [.ref u0, .int (bB r), .int x] [(u0, .inr (9, [.ref u1, .ref u2, .ref u3, .ref u4, .ref u5, .ref u6, .int (nI kn), .ref u7, .int (bB ik), .ref u8, .int (nI ty), .ref u9, .int (nI ta), .int (bB iw), .ref u10, .ref u11]))] (fun r_ w_ => r_ = some (.int (-1)) ∧ w_ = [(u0, .inr (9, [.ref u1, .ref u2, .ref u3, .ref u4, .ref u5, .ref u6, .int (nI kn), .ref u7, .int (bB ik), .ref u8, .int (nI ty), .ref u9, .int (nI ta), .int (bB iw), .ref u10, .ref u11]))]) 0 0 := by
  refine CM_int (own := RX9) (cc := cX9_sand) (maxL := 5) (L0 := [(0, .ref u0), (1, .int (bB r)), (2, .int x)]) (by decide) rfl rfl (Nat.le_of_ble_eq_true rfl) rfl (fun X O E => ?_)
  refine g_iload_n O dX9_sand_0 2 rfl rfl ?_
  refine g_iconst (x := (nI 0)) O dX9_sand_1 (by decide +kernel) ?_
  refine g_bipush (x := (nI 11)) O dX9_sand_2 (by decide +kernel) ?_
  refine g_callS (As := [.int x, .int (nI 0), .int (nI 11)]) (wr := [(u0, .inr (9, [.ref u1, .ref u2, .ref u3, .ref u4, .ref u5, .ref u6, .int (nI kn), .ref u7, .int (bB ik), .ref u8, .int (nI ty), .ref u9, .int (nI ta), .int (bB iw), .ref u10, .ref u11]))]) O (kX9_in l D z x (nI 0) (nI 11) ) gX9_sand_X9_in rfl rfl rfl 3 (by decide +kernel) (by decide) (by decide) [] [0] rfl (by decide) rfl (by decide) (by decide) rfl rfl (Nat.le_of_ble_eq_true rfl) dX9_sand_4 (fun r_1 w_2 hp => ?_)
  obtain ⟨rfl, rfl⟩ := hp
  refine g_eq (st' := [.int (bB (inI x (nI 0) (nI 11)))]) (ws' := [(u0, .inr (9, [.ref u1, .ref u2, .ref u3, .ref u4, .ref u5, .ref u6, .int (nI kn), .ref u7, .int (bB ik), .ref u8, .int (nI ty), .ref u9, .int (nI ta), .int (bB iw), .ref u10, .ref u11]))]) rfl rfl rfl ?_
  refine g_if_neB (tgt := 12) O dX9_sand_7 (by decide) (fun c_3 => absurd c_3 (by rw [inI_r _ (by decide), hb]; decide)) (fun c_3 => ?_)
  refine g_iconst (x := (-1)) O dX9_sand_10 (by decide +kernel) ?_
  exact E 11 _ (-1) _ dX9_sand_11 ⟨rfl, rfl⟩

theorem hiX9_sand_X9 : ∀ w ∈ wsX90, w ∈ wsX9_sand := by decide +kernel
set_option maxHeartbeats 4000000 in
set_option maxRecDepth 100000 in
/-- sand -/
theorem kX9_sand_row (l : Launch) (D : va_G) (z : Nat × Nat × Nat) (u0 : Nat) (u1 : Nat) (u2 : Nat) (u3 : Nat) (u4 : Nat) (u5 : Nat) (u6 : Nat) (u7 : Nat) (u8 : Nat) (u9 : Nat) (u10 : Nat) (u11 : Nat) (kn : Nat) (ik : Bool) (ty : Nat) (ta : Nat) (iw : Bool) (M : Nat → Int32) (s : SV) (x : Nat) (hx : x < 12) (hM : RM M s) : CM l yX9_sand wsX9_sand ({ frames := 1, cells := 0, slots := 0, locals := 22 } : Room) D z [.ref u0, .int (bB true), .int (nI x)] [(u0, .inr (9, [.ref u1, .ref u2, .ref u3, .ref u4, .ref u5, .ref u6, .int (nI kn), .ref u7, .int (bB ik), .ref u8, .int (nI ty), .ref u9, .int (nI ta), .int (bB iw), .ref u10, .ref u11])), (u5, .inl ((TY D)[0].1, 208, .inl M))] (fun r_ w_ => r_ = some (.int (nI (smN (fun p => if p / 12 = x then sv_g s p else 0) 144))) ∧ w_ = [(u0, .inr (9, [.ref u1, .ref u2, .ref u3, .ref u4, .ref u5, .ref u6, .int (nI kn), .ref u7, .int (bB ik), .ref u8, .int (nI ty), .ref u9, .int (nI ta), .int (bB iw), .ref u10, .ref u11])), (u5, .inl ((TY D)[0].1, 208, .inl M))]) 0 0 := by
  refine CM_int (own := RX9) (cc := cX9_sand) (maxL := 5) (L0 := [(0, .ref u0), (1, .int (bB true)), (2, .int (nI x))]) (by decide) rfl rfl (Nat.le_of_ble_eq_true rfl) rfl (fun X O E => ?_)
  refine g_iload_n O dX9_sand_0 2 rfl rfl ?_
  refine g_iconst (x := (nI 0)) O dX9_sand_1 (by decide +kernel) ?_
  refine g_bipush (x := (nI 11)) O dX9_sand_2 (by decide +kernel) ?_
  refine g_callS (As := [.int (nI x), .int (nI 0), .int (nI 11)]) (wr := [(u0, .inr (9, [.ref u1, .ref u2, .ref u3, .ref u4, .ref u5, .ref u6, .int (nI kn), .ref u7, .int (bB ik), .ref u8, .int (nI ty), .ref u9, .int (nI ta), .int (bB iw), .ref u10, .ref u11])), (u5, .inl ((TY D)[0].1, 208, .inl M))]) O (kX9_in l D z (nI x) (nI 0) (nI 11) ) gX9_sand_X9_in rfl rfl rfl 3 (by decide +kernel) (by decide) (by decide) [] [0, 1] rfl (by decide) rfl (by decide) (by decide) rfl rfl (Nat.le_of_ble_eq_true rfl) dX9_sand_4 (fun r_1 w_2 hp => ?_)
  obtain ⟨rfl, rfl⟩ := hp
  refine g_eq (st' := [.int (bB (inI (nI x) (nI 0) (nI 11)))]) (ws' := [(u0, .inr (9, [.ref u1, .ref u2, .ref u3, .ref u4, .ref u5, .ref u6, .int (nI kn), .ref u7, .int (bB ik), .ref u8, .int (nI ty), .ref u9, .int (nI ta), .int (bB iw), .ref u10, .ref u11])), (u5, .inl ((TY D)[0].1, 208, .inl M))]) rfl rfl rfl ?_
  refine g_if_neB (tgt := 12) O dX9_sand_7 (by decide) (fun c_3 => ?_) (fun c_3 => absurd c_3 (by rw [inI_r _ (by decide), rgB_t hx (by decide)]; decide))
  refine g_iconst (x := (nI 0)) O dX9_sand_12 (by decide +kernel) ?_
  refine g_istore_n (L' := [(0, .ref u0), (1, .int (bB true)), (2, .int (nI x)), (3, .int (nI 0))]) O dX9_sand_13 rfl (by decide) [1, 2, 3, 0] rfl ?_
  refine g_iconst (x := (nI 0)) O dX9_sand_14 (by decide +kernel) ?_
  refine g_istore (L' := [(0, .ref u0), (1, .int (bB true)), (2, .int (nI x)), (3, .int (nI 0)), (4, .int (nI 0))]) O dX9_sand_15 (by decide) [1, 2, 3, 4, 0] rfl ?_
  have J17 : ∀ (n_ : Nat), ∀ (i_ : Nat) (hi_ : i_ ≤ 144), 144 - i_ < n_ → G X 0 0 17 [(0, .ref u0), (1, .int (bB true)), (2, .int (nI x)), (3, .int (nI (smN (fun p => if p / 12 = x then sv_g s p else 0) i_))), (4, .int (nI i_))] [] [(u0, .inr (9, [.ref u1, .ref u2, .ref u3, .ref u4, .ref u5, .ref u6, .int (nI kn), .ref u7, .int (bB ik), .ref u8, .int (nI ty), .ref u9, .int (nI ta), .int (bB iw), .ref u10, .ref u11])), (u5, .inl ((TY D)[0].1, 208, .inl M))] := by
    intro n_
    induction n_ with
    | zero => intro i_ hi_ hm_; exact absurd hm_ (Nat.not_lt_zero _)
    | succ n_ ih_ =>
      intro i_ hi_ hm_
      refine g_iload O dX9_sand_17 4 rfl ?_
      refine g_sipush (x := (nI 144)) O dX9_sand_19 (by decide +kernel) ?_
      refine g_icmp_geN (tgt := 68) O (by omega) (by omega) dX9_sand_22 (by decide) (fun c_4 => ?_) (fun c_4 => ?_)
      ·
        obtain rfl : i_ = 144 := by omega
        refine g_iload_n O dX9_sand_68 3 rfl rfl ?_
        exact E 69 _ (nI (smN (fun p => if p / 12 = x then sv_g s p else 0) 144)) _ dX9_sand_69 ⟨rfl, rfl⟩
      ·
        refine g_iload_n O dX9_sand_25 3 rfl rfl ?_
        refine g_iload_n O dX9_sand_26 1 rfl rfl ?_
        refine g_if_eqB (tgt := 38) O dX9_sand_27 (by decide) (fun c_5 => absurd c_5 (by decide)) (fun c_5 => ?_)
        refine g_iload O dX9_sand_30 4 rfl ?_
        refine g_bipush (x := (nI 12)) O dX9_sand_32 (by decide +kernel) ?_
        refine g_idivN O (by omega) (by omega) (by omega) dX9_sand_34 ?_
        refine g_goto (tgt := 43) O dX9_sand_35 (by decide) ?_
        refine g_iload_n O dX9_sand_43 2 rfl rfl ?_
        refine g_icmp_neN (tgt := 59) O (by omega) (by omega) dX9_sand_44 (by decide) (fun c_6 => ?_) (fun c_6 => ?_)
        ·
          have hq : smN (fun p => if p / 12 = x then sv_g s p else 0) (i_ + 1) = smN (fun p => if p / 12 = x then sv_g s p else 0) i_ + 0 := by simp only [smN]; rw [if_neg c_6]
          refine g_iconst (x := (nI 0)) O dX9_sand_59 (by decide +kernel) ?_
          refine g_iaddN O dX9_sand_60 ?_
          refine g_eq (st' := [.int (nI (smN (fun p => if p / 12 = x then sv_g s p else 0) (i_ + 1)))]) (by rw [hq]) rfl rfl ?_
          refine g_istore_n (L' := [(0, .ref u0), (1, .int (bB true)), (2, .int (nI x)), (3, .int (nI (smN (fun p => if p / 12 = x then sv_g s p else 0) (i_ + 1)))), (4, .int (nI i_))]) O dX9_sand_61 rfl (by decide) [1, 2, 3, 0, 4] rfl ?_
          refine g_iincN (L' := [(0, .ref u0), (1, .int (bB true)), (2, .int (nI x)), (3, .int (nI (smN (fun p => if p / 12 = x then sv_g s p else 0) (i_ + 1)))), (4, .int (nI (i_ + 1)))]) O dX9_sand_62 4 rfl (by decide) [1, 2, 3, 4, 0] rfl ?_
          refine g_goto (tgt := 17) O dX9_sand_65 (by decide) ?_
          exact ih_ (i_ + 1) (by first | assumption | omega | rfl) (by omega)
        ·
          have hq : smN (fun p => if p / 12 = x then sv_g s p else 0) (i_ + 1) = smN (fun p => if p / 12 = x then sv_g s p else 0) i_ + sv_g s i_ := by simp only [smN]; rw [if_pos (Decidable.not_not.mp c_6)]
          refine g_aload_n O dX9_sand_47 0 rfl rfl ?_
          refine g_get O hiX9_sand_X9 0 rfl rfl 4 (by decide) (by decide +kernel) rfl dX9_sand_48 ?_
          refine g_iconst (x := (nI 0)) O dX9_sand_51 (by decide +kernel) ?_
          refine g_iload O dX9_sand_52 4 rfl ?_
          refine g_iaddN O dX9_sand_54 ?_
          refine g_ialdN O 1 rfl (by omega) (by omega) dX9_sand_55 ?_
          refine g_eq (st' := [.int (nI (sv_g s i_)), .int (nI (smN (fun p => if p / 12 = x then sv_g s p else 0) i_))]) (by rw [RM_g0 hM (show i_ < 144 by omega)]) rfl rfl ?_
          refine g_goto (tgt := 60) O dX9_sand_56 (by decide) ?_
          refine g_iaddN O dX9_sand_60 ?_
          refine g_eq (st' := [.int (nI (smN (fun p => if p / 12 = x then sv_g s p else 0) (i_ + 1)))]) (by rw [hq]) rfl rfl ?_
          refine g_istore_n (L' := [(0, .ref u0), (1, .int (bB true)), (2, .int (nI x)), (3, .int (nI (smN (fun p => if p / 12 = x then sv_g s p else 0) (i_ + 1)))), (4, .int (nI i_))]) O dX9_sand_61 rfl (by decide) [1, 2, 3, 0, 4] rfl ?_
          refine g_iincN (L' := [(0, .ref u0), (1, .int (bB true)), (2, .int (nI x)), (3, .int (nI (smN (fun p => if p / 12 = x then sv_g s p else 0) (i_ + 1)))), (4, .int (nI (i_ + 1)))]) O dX9_sand_62 4 rfl (by decide) [1, 2, 3, 4, 0] rfl ?_
          refine g_goto (tgt := 17) O dX9_sand_65 (by decide) ?_
          exact ih_ (i_ + 1) (by first | assumption | omega | rfl) (by omega)
  exact J17 _ 0 (Nat.zero_le _) (Nat.lt_succ_self _)

set_option maxHeartbeats 4000000 in
set_option maxRecDepth 100000 in
/-- sand -/
theorem kX9_sand_col (l : Launch) (D : va_G) (z : Nat × Nat × Nat) (u0 : Nat) (u1 : Nat) (u2 : Nat) (u3 : Nat) (u4 : Nat) (u5 : Nat) (u6 : Nat) (u7 : Nat) (u8 : Nat) (u9 : Nat) (u10 : Nat) (u11 : Nat) (kn : Nat) (ik : Bool) (ty : Nat) (ta : Nat) (iw : Bool) (M : Nat → Int32) (s : SV) (x : Nat) (hx : x < 12) (hM : RM M s) : CM l yX9_sand wsX9_sand ({ frames := 1, cells := 0, slots := 0, locals := 22 } : Room) D z [.ref u0, .int (bB false), .int (nI x)] [(u0, .inr (9, [.ref u1, .ref u2, .ref u3, .ref u4, .ref u5, .ref u6, .int (nI kn), .ref u7, .int (bB ik), .ref u8, .int (nI ty), .ref u9, .int (nI ta), .int (bB iw), .ref u10, .ref u11])), (u5, .inl ((TY D)[0].1, 208, .inl M))] (fun r_ w_ => r_ = some (.int (nI (smN (fun p => if p % 12 = x then sv_g s p else 0) 144))) ∧ w_ = [(u0, .inr (9, [.ref u1, .ref u2, .ref u3, .ref u4, .ref u5, .ref u6, .int (nI kn), .ref u7, .int (bB ik), .ref u8, .int (nI ty), .ref u9, .int (nI ta), .int (bB iw), .ref u10, .ref u11])), (u5, .inl ((TY D)[0].1, 208, .inl M))]) 0 0 := by
  refine CM_int (own := RX9) (cc := cX9_sand) (maxL := 5) (L0 := [(0, .ref u0), (1, .int (bB false)), (2, .int (nI x))]) (by decide) rfl rfl (Nat.le_of_ble_eq_true rfl) rfl (fun X O E => ?_)
  refine g_iload_n O dX9_sand_0 2 rfl rfl ?_
  refine g_iconst (x := (nI 0)) O dX9_sand_1 (by decide +kernel) ?_
  refine g_bipush (x := (nI 11)) O dX9_sand_2 (by decide +kernel) ?_
  refine g_callS (As := [.int (nI x), .int (nI 0), .int (nI 11)]) (wr := [(u0, .inr (9, [.ref u1, .ref u2, .ref u3, .ref u4, .ref u5, .ref u6, .int (nI kn), .ref u7, .int (bB ik), .ref u8, .int (nI ty), .ref u9, .int (nI ta), .int (bB iw), .ref u10, .ref u11])), (u5, .inl ((TY D)[0].1, 208, .inl M))]) O (kX9_in l D z (nI x) (nI 0) (nI 11) ) gX9_sand_X9_in rfl rfl rfl 3 (by decide +kernel) (by decide) (by decide) [] [0, 1] rfl (by decide) rfl (by decide) (by decide) rfl rfl (Nat.le_of_ble_eq_true rfl) dX9_sand_4 (fun r_1 w_2 hp => ?_)
  obtain ⟨rfl, rfl⟩ := hp
  refine g_eq (st' := [.int (bB (inI (nI x) (nI 0) (nI 11)))]) (ws' := [(u0, .inr (9, [.ref u1, .ref u2, .ref u3, .ref u4, .ref u5, .ref u6, .int (nI kn), .ref u7, .int (bB ik), .ref u8, .int (nI ty), .ref u9, .int (nI ta), .int (bB iw), .ref u10, .ref u11])), (u5, .inl ((TY D)[0].1, 208, .inl M))]) rfl rfl rfl ?_
  refine g_if_neB (tgt := 12) O dX9_sand_7 (by decide) (fun c_3 => ?_) (fun c_3 => absurd c_3 (by rw [inI_r _ (by decide), rgB_t hx (by decide)]; decide))
  refine g_iconst (x := (nI 0)) O dX9_sand_12 (by decide +kernel) ?_
  refine g_istore_n (L' := [(0, .ref u0), (1, .int (bB false)), (2, .int (nI x)), (3, .int (nI 0))]) O dX9_sand_13 rfl (by decide) [1, 2, 3, 0] rfl ?_
  refine g_iconst (x := (nI 0)) O dX9_sand_14 (by decide +kernel) ?_
  refine g_istore (L' := [(0, .ref u0), (1, .int (bB false)), (2, .int (nI x)), (3, .int (nI 0)), (4, .int (nI 0))]) O dX9_sand_15 (by decide) [1, 2, 3, 4, 0] rfl ?_
  have J17 : ∀ (n_ : Nat), ∀ (i_ : Nat) (hi_ : i_ ≤ 144), 144 - i_ < n_ → G X 0 0 17 [(0, .ref u0), (1, .int (bB false)), (2, .int (nI x)), (3, .int (nI (smN (fun p => if p % 12 = x then sv_g s p else 0) i_))), (4, .int (nI i_))] [] [(u0, .inr (9, [.ref u1, .ref u2, .ref u3, .ref u4, .ref u5, .ref u6, .int (nI kn), .ref u7, .int (bB ik), .ref u8, .int (nI ty), .ref u9, .int (nI ta), .int (bB iw), .ref u10, .ref u11])), (u5, .inl ((TY D)[0].1, 208, .inl M))] := by
    intro n_
    induction n_ with
    | zero => intro i_ hi_ hm_; exact absurd hm_ (Nat.not_lt_zero _)
    | succ n_ ih_ =>
      intro i_ hi_ hm_
      refine g_iload O dX9_sand_17 4 rfl ?_
      refine g_sipush (x := (nI 144)) O dX9_sand_19 (by decide +kernel) ?_
      refine g_icmp_geN (tgt := 68) O (by omega) (by omega) dX9_sand_22 (by decide) (fun c_4 => ?_) (fun c_4 => ?_)
      ·
        obtain rfl : i_ = 144 := by omega
        refine g_iload_n O dX9_sand_68 3 rfl rfl ?_
        exact E 69 _ (nI (smN (fun p => if p % 12 = x then sv_g s p else 0) 144)) _ dX9_sand_69 ⟨rfl, rfl⟩
      ·
        refine g_iload_n O dX9_sand_25 3 rfl rfl ?_
        refine g_iload_n O dX9_sand_26 1 rfl rfl ?_
        refine g_if_eqB (tgt := 38) O dX9_sand_27 (by decide) (fun c_5 => ?_) (fun c_5 => absurd c_5 (by decide))
        refine g_iload O dX9_sand_38 4 rfl ?_
        refine g_bipush (x := (nI 12)) O dX9_sand_40 (by decide +kernel) ?_
        refine g_iremN O (by omega) (by omega) (by omega) dX9_sand_42 ?_
        refine g_iload_n O dX9_sand_43 2 rfl rfl ?_
        refine g_icmp_neN (tgt := 59) O (by omega) (by omega) dX9_sand_44 (by decide) (fun c_6 => ?_) (fun c_6 => ?_)
        ·
          have hq : smN (fun p => if p % 12 = x then sv_g s p else 0) (i_ + 1) = smN (fun p => if p % 12 = x then sv_g s p else 0) i_ + 0 := by simp only [smN]; rw [if_neg c_6]
          refine g_iconst (x := (nI 0)) O dX9_sand_59 (by decide +kernel) ?_
          refine g_iaddN O dX9_sand_60 ?_
          refine g_eq (st' := [.int (nI (smN (fun p => if p % 12 = x then sv_g s p else 0) (i_ + 1)))]) (by rw [hq]) rfl rfl ?_
          refine g_istore_n (L' := [(0, .ref u0), (1, .int (bB false)), (2, .int (nI x)), (3, .int (nI (smN (fun p => if p % 12 = x then sv_g s p else 0) (i_ + 1)))), (4, .int (nI i_))]) O dX9_sand_61 rfl (by decide) [1, 2, 3, 0, 4] rfl ?_
          refine g_iincN (L' := [(0, .ref u0), (1, .int (bB false)), (2, .int (nI x)), (3, .int (nI (smN (fun p => if p % 12 = x then sv_g s p else 0) (i_ + 1)))), (4, .int (nI (i_ + 1)))]) O dX9_sand_62 4 rfl (by decide) [1, 2, 3, 4, 0] rfl ?_
          refine g_goto (tgt := 17) O dX9_sand_65 (by decide) ?_
          exact ih_ (i_ + 1) (by first | assumption | omega | rfl) (by omega)
        ·
          have hq : smN (fun p => if p % 12 = x then sv_g s p else 0) (i_ + 1) = smN (fun p => if p % 12 = x then sv_g s p else 0) i_ + sv_g s i_ := by simp only [smN]; rw [if_pos (Decidable.not_not.mp c_6)]
          refine g_aload_n O dX9_sand_47 0 rfl rfl ?_
          refine g_get O hiX9_sand_X9 0 rfl rfl 4 (by decide) (by decide +kernel) rfl dX9_sand_48 ?_
          refine g_iconst (x := (nI 0)) O dX9_sand_51 (by decide +kernel) ?_
          refine g_iload O dX9_sand_52 4 rfl ?_
          refine g_iaddN O dX9_sand_54 ?_
          refine g_ialdN O 1 rfl (by omega) (by omega) dX9_sand_55 ?_
          refine g_eq (st' := [.int (nI (sv_g s i_)), .int (nI (smN (fun p => if p % 12 = x then sv_g s p else 0) i_))]) (by rw [RM_g0 hM (show i_ < 144 by omega)]) rfl rfl ?_
          refine g_goto (tgt := 60) O dX9_sand_56 (by decide) ?_
          refine g_iaddN O dX9_sand_60 ?_
          refine g_eq (st' := [.int (nI (smN (fun p => if p % 12 = x then sv_g s p else 0) (i_ + 1)))]) (by rw [hq]) rfl rfl ?_
          refine g_istore_n (L' := [(0, .ref u0), (1, .int (bB false)), (2, .int (nI x)), (3, .int (nI (smN (fun p => if p % 12 = x then sv_g s p else 0) (i_ + 1)))), (4, .int (nI i_))]) O dX9_sand_61 rfl (by decide) [1, 2, 3, 0, 4] rfl ?_
          refine g_iincN (L' := [(0, .ref u0), (1, .int (bB false)), (2, .int (nI x)), (3, .int (nI (smN (fun p => if p % 12 = x then sv_g s p else 0) (i_ + 1)))), (4, .int (nI (i_ + 1)))]) O dX9_sand_62 4 rfl (by decide) [1, 2, 3, 4, 0] rfl ?_
          refine g_goto (tgt := 17) O dX9_sand_65 (by decide) ?_
          exact ih_ (i_ + 1) (by first | assumption | omega | rfl) (by omega)
  exact J17 _ 0 (Nat.zero_le _) (Nat.lt_succ_self _)

set_option maxHeartbeats 4000000 in
set_option maxRecDepth 100000 in
theorem kX9_count_b1 (l : Launch) (D : va_G) (z : Nat × Nat × Nat) (u0 : Nat) (u1 : Nat) (u2 : Nat) (u3 : Nat) (u4 : Nat) (u5 : Nat) (u6 : Nat) (u7 : Nat) (u8 : Nat) (u9 : Nat) (u10 : Nat) (u11 : Nat) (kn : Nat) (ik : Bool) (ty : Nat) (ta : Nat) (iw : Bool) (k : Int32) (hsw : k < 0 ∨ nI 17 ≤ k) : CM l yX9_count wsX9_count ({ frames := 6, cells := 0, slots := 0, locals := 134 } : Room) D z [.ref u0, .int k] [(u0, .inr (9, [.ref u1, .ref u2, .ref u3, .ref u4, .ref u5, .ref u6, .int (nI kn), .ref u7, .int (bB ik), .ref u8, .int (nI ty), .ref u9, .int (nI ta), .int (bB iw), .ref u10, .ref u11]))] (fun r_ w_ => r_ = some (.int (-2)) ∧ w_ = [(u0, .inr (9, [.ref u1, .ref u2, .ref u3, .ref u4, .ref u5, .ref u6, .int (nI kn), .ref u7, .int (bB ik), .ref u8, .int (nI ty), .ref u9, .int (nI ta), .int (bB iw), .ref u10, .ref u11]))]) 0 0 := by
  refine CM_int (own := RX9) (cc := cX9_count) (maxL := 2) (L0 := [(0, .ref u0), (1, .int k)]) (by decide) rfl rfl (Nat.le_of_ble_eq_true rfl) rfl (fun X O E => ?_)
  refine g_iload_n O dX9_count_0 1 rfl rfl ?_
  refine g_tableO (tgt := 168) (N := 17) O dX9_count_1 hsw (by decide) (by decide) (by decide) ?_
  refine g_bipush (x := (-2)) O dX9_count_168 (by decide +kernel) ?_
  exact E 170 _ (-2) _ dX9_count_170 ⟨rfl, rfl⟩

set_option maxHeartbeats 4000000 in
set_option maxRecDepth 100000 in
theorem kX9_count_0 (l : Launch) (D : va_G) (z : Nat × Nat × Nat) (u0 : Nat) (u1 : Nat) (u2 : Nat) (u3 : Nat) (u4 : Nat) (u5 : Nat) (u6 : Nat) (u7 : Nat) (u8 : Nat) (u9 : Nat) (u10 : Nat) (u11 : Nat) (kn : Nat) (ik : Bool) (ty : Nat) (ta : Nat) (iw : Bool) (M : Nat → Int32) (s : SV) (hM : RM M s) : CM l yX9_count wsX9_count ({ frames := 6, cells := 0, slots := 0, locals := 134 } : Room) D z [.ref u0, .int (nI 0)] [(u0, .inr (9, [.ref u1, .ref u2, .ref u3, .ref u4, .ref u5, .ref u6, .int (nI kn), .ref u7, .int (bB ik), .ref u8, .int (nI ty), .ref u9, .int (nI ta), .int (bB iw), .ref u10, .ref u11])), (u5, .inl ((TY D)[0].1, 208, .inl M))] (fun r_ w_ => r_ = some (.int (nI (smN (sv_g s) 144))) ∧ w_ = [(u0, .inr (9, [.ref u1, .ref u2, .ref u3, .ref u4, .ref u5, .ref u6, .int (nI kn), .ref u7, .int (bB ik), .ref u8, .int (nI ty), .ref u9, .int (nI ta), .int (bB iw), .ref u10, .ref u11])), (u5, .inl ((TY D)[0].1, 208, .inl M))]) 0 0 := by
  refine CM_int (own := RX9) (cc := cX9_count) (maxL := 2) (L0 := [(0, .ref u0), (1, .int (nI 0))]) (by decide) rfl rfl (Nat.le_of_ble_eq_true rfl) rfl (fun X O E => ?_)
  refine g_iload_n O dX9_count_0 1 rfl rfl ?_
  refine g_tableIn (off := 83) (tgt := 84) O dX9_count_1 (by decide +kernel) (by decide +kernel) (by decide +kernel) (by decide) ?_
  refine g_aload_n O dX9_count_84 0 rfl rfl ?_
  refine g_callV (As := []) (wr := []) O (kX9_allGrains l D z u0 u1 u2 u3 u4 u5 u6 u7 u8 u9 u10 u11 kn ik ty ta iw M s (by first | assumption | omega)) gX9_count_X9_allGrains rfl rfl rfl 0 (by decide +kernel) (by decide) (by decide) (q0 := 0) rfl rfl rfl [0, 1] [] rfl (by decide) rfl (by decide) (by decide) rfl rfl (Nat.le_of_ble_eq_true rfl) dX9_count_85 (fun r_1 w_2 hp => ?_)
  obtain ⟨rfl, rfl⟩ := hp
  refine g_eq (st' := [.int (nI (smN (sv_g s) 144))]) (ws' := [(u0, .inr (9, [.ref u1, .ref u2, .ref u3, .ref u4, .ref u5, .ref u6, .int (nI kn), .ref u7, .int (bB ik), .ref u8, .int (nI ty), .ref u9, .int (nI ta), .int (bB iw), .ref u10, .ref u11])), (u5, .inl ((TY D)[0].1, 208, .inl M))]) rfl rfl rfl ?_
  exact E 88 _ (nI (smN (sv_g s) 144)) _ dX9_count_88 ⟨rfl, rfl⟩

theorem hiX9_count_X9 : ∀ w ∈ wsX90, w ∈ wsX9_count := by decide +kernel
set_option maxHeartbeats 4000000 in
set_option maxRecDepth 100000 in
theorem kX9_count_1 (l : Launch) (D : va_G) (z : Nat × Nat × Nat) (u0 : Nat) (u1 : Nat) (u2 : Nat) (u3 : Nat) (u4 : Nat) (u5 : Nat) (u6 : Nat) (u7 : Nat) (u8 : Nat) (u9 : Nat) (u10 : Nat) (u11 : Nat) (kn : Nat) (ik : Bool) (ty : Nat) (ta : Nat) (iw : Bool) (M : Nat → Int32) (s : SV) (hM : RM M s) : CM l yX9_count wsX9_count ({ frames := 6, cells := 0, slots := 0, locals := 134 } : Room) D z [.ref u0, .int (nI 1)] [(u0, .inr (9, [.ref u1, .ref u2, .ref u3, .ref u4, .ref u5, .ref u6, .int (nI kn), .ref u7, .int (bB ik), .ref u8, .int (nI ty), .ref u9, .int (nI ta), .int (bB iw), .ref u10, .ref u11])), (u5, .inl ((TY D)[0].1, 208, .inl M))] (fun r_ w_ => r_ = some (.int (sv_st s)) ∧ w_ = [(u0, .inr (9, [.ref u1, .ref u2, .ref u3, .ref u4, .ref u5, .ref u6, .int (nI kn), .ref u7, .int (bB ik), .ref u8, .int (nI ty), .ref u9, .int (nI ta), .int (bB iw), .ref u10, .ref u11])), (u5, .inl ((TY D)[0].1, 208, .inl M))]) 0 0 := by
  refine CM_int (own := RX9) (cc := cX9_count) (maxL := 2) (L0 := [(0, .ref u0), (1, .int (nI 1))]) (by decide) rfl rfl (Nat.le_of_ble_eq_true rfl) rfl (fun X O E => ?_)
  refine g_iload_n O dX9_count_0 1 rfl rfl ?_
  refine g_tableIn (off := 88) (tgt := 89) O dX9_count_1 (by decide +kernel) (by decide +kernel) (by decide +kernel) (by decide) ?_
  refine g_aload_n O dX9_count_89 0 rfl rfl ?_
  refine g_get O hiX9_count_X9 0 rfl rfl 4 (by decide) (by decide +kernel) rfl dX9_count_90 ?_
  refine g_sipush (x := (nI 148)) O dX9_count_93 (by decide +kernel) ?_
  refine g_iload_n O dX9_count_96 1 rfl rfl ?_
  refine g_iaddN O dX9_count_97 ?_
  refine g_iconst (x := (nI 1)) O dX9_count_98 (by decide +kernel) ?_
  refine g_isubN O (by omega) dX9_count_99 ?_
  refine g_eq (st' := [.int (nI 148), .ref u5]) rfl rfl rfl ?_
  refine g_ialdN O 1 rfl (by omega) (by omega) dX9_count_100 ?_
  refine g_eq (st' := [.int (sv_st s)]) (by rw [RM_st hM]) rfl rfl ?_
  exact E 101 _ (sv_st s) _ dX9_count_101 ⟨rfl, rfl⟩

set_option maxHeartbeats 4000000 in
set_option maxRecDepth 100000 in
theorem kX9_count_2 (l : Launch) (D : va_G) (z : Nat × Nat × Nat) (u0 : Nat) (u1 : Nat) (u2 : Nat) (u3 : Nat) (u4 : Nat) (u5 : Nat) (u6 : Nat) (u7 : Nat) (u8 : Nat) (u9 : Nat) (u10 : Nat) (u11 : Nat) (kn : Nat) (ik : Bool) (ty : Nat) (ta : Nat) (iw : Bool) (M : Nat → Int32) (s : SV) (hM : RM M s) : CM l yX9_count wsX9_count ({ frames := 6, cells := 0, slots := 0, locals := 134 } : Room) D z [.ref u0, .int (nI 2)] [(u0, .inr (9, [.ref u1, .ref u2, .ref u3, .ref u4, .ref u5, .ref u6, .int (nI kn), .ref u7, .int (bB ik), .ref u8, .int (nI ty), .ref u9, .int (nI ta), .int (bB iw), .ref u10, .ref u11])), (u5, .inl ((TY D)[0].1, 208, .inl M))] (fun r_ w_ => r_ = some (.int (sv_sw s)) ∧ w_ = [(u0, .inr (9, [.ref u1, .ref u2, .ref u3, .ref u4, .ref u5, .ref u6, .int (nI kn), .ref u7, .int (bB ik), .ref u8, .int (nI ty), .ref u9, .int (nI ta), .int (bB iw), .ref u10, .ref u11])), (u5, .inl ((TY D)[0].1, 208, .inl M))]) 0 0 := by
  refine CM_int (own := RX9) (cc := cX9_count) (maxL := 2) (L0 := [(0, .ref u0), (1, .int (nI 2))]) (by decide) rfl rfl (Nat.le_of_ble_eq_true rfl) rfl (fun X O E => ?_)
  refine g_iload_n O dX9_count_0 1 rfl rfl ?_
  refine g_tableIn (off := 88) (tgt := 89) O dX9_count_1 (by decide +kernel) (by decide +kernel) (by decide +kernel) (by decide) ?_
  refine g_aload_n O dX9_count_89 0 rfl rfl ?_
  refine g_get O hiX9_count_X9 0 rfl rfl 4 (by decide) (by decide +kernel) rfl dX9_count_90 ?_
  refine g_sipush (x := (nI 148)) O dX9_count_93 (by decide +kernel) ?_
  refine g_iload_n O dX9_count_96 1 rfl rfl ?_
  refine g_iaddN O dX9_count_97 ?_
  refine g_iconst (x := (nI 1)) O dX9_count_98 (by decide +kernel) ?_
  refine g_isubN O (by omega) dX9_count_99 ?_
  refine g_eq (st' := [.int (nI 149), .ref u5]) rfl rfl rfl ?_
  refine g_ialdN O 1 rfl (by omega) (by omega) dX9_count_100 ?_
  refine g_eq (st' := [.int (sv_sw s)]) (by rw [RM_sw hM]) rfl rfl ?_
  exact E 101 _ (sv_sw s) _ dX9_count_101 ⟨rfl, rfl⟩

set_option maxHeartbeats 4000000 in
set_option maxRecDepth 100000 in
theorem kX9_count_3 (l : Launch) (D : va_G) (z : Nat × Nat × Nat) (u0 : Nat) (u1 : Nat) (u2 : Nat) (u3 : Nat) (u4 : Nat) (u5 : Nat) (u6 : Nat) (u7 : Nat) (u8 : Nat) (u9 : Nat) (u10 : Nat) (u11 : Nat) (kn : Nat) (ik : Bool) (ty : Nat) (ta : Nat) (iw : Bool) (M : Nat → Int32) (s : SV) (hM : RM M s) : CM l yX9_count wsX9_count ({ frames := 6, cells := 0, slots := 0, locals := 134 } : Room) D z [.ref u0, .int (nI 3)] [(u0, .inr (9, [.ref u1, .ref u2, .ref u3, .ref u4, .ref u5, .ref u6, .int (nI kn), .ref u7, .int (bB ik), .ref u8, .int (nI ty), .ref u9, .int (nI ta), .int (bB iw), .ref u10, .ref u11])), (u5, .inl ((TY D)[0].1, 208, .inl M))] (fun r_ w_ => r_ = some (.int (sv_fl s)) ∧ w_ = [(u0, .inr (9, [.ref u1, .ref u2, .ref u3, .ref u4, .ref u5, .ref u6, .int (nI kn), .ref u7, .int (bB ik), .ref u8, .int (nI ty), .ref u9, .int (nI ta), .int (bB iw), .ref u10, .ref u11])), (u5, .inl ((TY D)[0].1, 208, .inl M))]) 0 0 := by
  refine CM_int (own := RX9) (cc := cX9_count) (maxL := 2) (L0 := [(0, .ref u0), (1, .int (nI 3))]) (by decide) rfl rfl (Nat.le_of_ble_eq_true rfl) rfl (fun X O E => ?_)
  refine g_iload_n O dX9_count_0 1 rfl rfl ?_
  refine g_tableIn (off := 88) (tgt := 89) O dX9_count_1 (by decide +kernel) (by decide +kernel) (by decide +kernel) (by decide) ?_
  refine g_aload_n O dX9_count_89 0 rfl rfl ?_
  refine g_get O hiX9_count_X9 0 rfl rfl 4 (by decide) (by decide +kernel) rfl dX9_count_90 ?_
  refine g_sipush (x := (nI 148)) O dX9_count_93 (by decide +kernel) ?_
  refine g_iload_n O dX9_count_96 1 rfl rfl ?_
  refine g_iaddN O dX9_count_97 ?_
  refine g_iconst (x := (nI 1)) O dX9_count_98 (by decide +kernel) ?_
  refine g_isubN O (by omega) dX9_count_99 ?_
  refine g_eq (st' := [.int (nI 150), .ref u5]) rfl rfl rfl ?_
  refine g_ialdN O 1 rfl (by omega) (by omega) dX9_count_100 ?_
  refine g_eq (st' := [.int (sv_fl s)]) (by rw [RM_fl hM]) rfl rfl ?_
  exact E 101 _ (sv_fl s) _ dX9_count_101 ⟨rfl, rfl⟩

set_option maxHeartbeats 4000000 in
set_option maxRecDepth 100000 in
theorem kX9_count_4 (l : Launch) (D : va_G) (z : Nat × Nat × Nat) (u0 : Nat) (u1 : Nat) (u2 : Nat) (u3 : Nat) (u4 : Nat) (u5 : Nat) (u6 : Nat) (u7 : Nat) (u8 : Nat) (u9 : Nat) (u10 : Nat) (u11 : Nat) (kn : Nat) (ik : Bool) (ty : Nat) (ta : Nat) (iw : Bool) (M : Nat → Int32) (s : SV) (hM : RM M s) : CM l yX9_count wsX9_count ({ frames := 6, cells := 0, slots := 0, locals := 134 } : Room) D z [.ref u0, .int (nI 4)] [(u0, .inr (9, [.ref u1, .ref u2, .ref u3, .ref u4, .ref u5, .ref u6, .int (nI kn), .ref u7, .int (bB ik), .ref u8, .int (nI ty), .ref u9, .int (nI ta), .int (bB iw), .ref u10, .ref u11])), (u5, .inl ((TY D)[0].1, 208, .inl M))] (fun r_ w_ => r_ = some (.int (nI (sv_nc s))) ∧ w_ = [(u0, .inr (9, [.ref u1, .ref u2, .ref u3, .ref u4, .ref u5, .ref u6, .int (nI kn), .ref u7, .int (bB ik), .ref u8, .int (nI ty), .ref u9, .int (nI ta), .int (bB iw), .ref u10, .ref u11])), (u5, .inl ((TY D)[0].1, 208, .inl M))]) 0 0 := by
  refine CM_int (own := RX9) (cc := cX9_count) (maxL := 2) (L0 := [(0, .ref u0), (1, .int (nI 4))]) (by decide) rfl rfl (Nat.le_of_ble_eq_true rfl) rfl (fun X O E => ?_)
  refine g_iload_n O dX9_count_0 1 rfl rfl ?_
  refine g_tableIn (off := 101) (tgt := 102) O dX9_count_1 (by decide +kernel) (by decide +kernel) (by decide +kernel) (by decide) ?_
  refine g_aload_n O dX9_count_102 0 rfl rfl ?_
  refine g_get O hiX9_count_X9 0 rfl rfl 4 (by decide) (by decide +kernel) rfl dX9_count_103 ?_
  refine g_sipush (x := (nI 154)) O dX9_count_106 (by decide +kernel) ?_
  refine g_ialdN O 1 rfl (by omega) (by omega) dX9_count_109 ?_
  refine g_eq (st' := [.int (nI (sv_nc s))]) (by rw [RM_nc hM]) rfl rfl ?_
  exact E 110 _ (nI (sv_nc s)) _ dX9_count_110 ⟨rfl, rfl⟩

set_option maxHeartbeats 4000000 in
set_option maxRecDepth 100000 in
theorem kX9_count_5 (l : Launch) (D : va_G) (z : Nat × Nat × Nat) (u0 : Nat) (u1 : Nat) (u2 : Nat) (u3 : Nat) (u4 : Nat) (u5 : Nat) (u6 : Nat) (u7 : Nat) (u8 : Nat) (u9 : Nat) (u10 : Nat) (u11 : Nat) (kn : Nat) (ik : Bool) (ty : Nat) (ta : Nat) (iw : Bool) (M : Nat → Int32) (s : SV) (hM : RM M s) : CM l yX9_count wsX9_count ({ frames := 6, cells := 0, slots := 0, locals := 134 } : Room) D z [.ref u0, .int (nI 5)] [(u0, .inr (9, [.ref u1, .ref u2, .ref u3, .ref u4, .ref u5, .ref u6, .int (nI kn), .ref u7, .int (bB ik), .ref u8, .int (nI ty), .ref u9, .int (nI ta), .int (bB iw), .ref u10, .ref u11])), (u5, .inl ((TY D)[0].1, 208, .inl M))] (fun r_ w_ => r_ = some (.int (nI (sv_ps s))) ∧ w_ = [(u0, .inr (9, [.ref u1, .ref u2, .ref u3, .ref u4, .ref u5, .ref u6, .int (nI kn), .ref u7, .int (bB ik), .ref u8, .int (nI ty), .ref u9, .int (nI ta), .int (bB iw), .ref u10, .ref u11])), (u5, .inl ((TY D)[0].1, 208, .inl M))]) 0 0 := by
  refine CM_int (own := RX9) (cc := cX9_count) (maxL := 2) (L0 := [(0, .ref u0), (1, .int (nI 5))]) (by decide) rfl rfl (Nat.le_of_ble_eq_true rfl) rfl (fun X O E => ?_)
  refine g_iload_n O dX9_count_0 1 rfl rfl ?_
  refine g_tableIn (off := 110) (tgt := 111) O dX9_count_1 (by decide +kernel) (by decide +kernel) (by decide +kernel) (by decide) ?_
  refine g_aload_n O dX9_count_111 0 rfl rfl ?_
  refine g_get O hiX9_count_X9 0 rfl rfl 4 (by decide) (by decide +kernel) rfl dX9_count_112 ?_
  refine g_sipush (x := (nI 159)) O dX9_count_115 (by decide +kernel) ?_
  refine g_ialdN O 1 rfl (by omega) (by omega) dX9_count_118 ?_
  refine g_eq (st' := [.int (nI (sv_ps s))]) (by rw [RM_ps hM]) rfl rfl ?_
  exact E 119 _ (nI (sv_ps s)) _ dX9_count_119 ⟨rfl, rfl⟩

set_option maxHeartbeats 4000000 in
set_option maxRecDepth 100000 in
theorem kX9_count_6 (l : Launch) (D : va_G) (z : Nat × Nat × Nat) (u0 : Nat) (u1 : Nat) (u2 : Nat) (u3 : Nat) (u4 : Nat) (u5 : Nat) (u6 : Nat) (u7 : Nat) (u8 : Nat) (u9 : Nat) (u10 : Nat) (u11 : Nat) (kn : Nat) (ik : Bool) (ty : Nat) (ta : Nat) (iw : Bool) (M : Nat → Int32) (s : SV) (hM : RM M s) : CM l yX9_count wsX9_count ({ frames := 6, cells := 0, slots := 0, locals := 134 } : Room) D z [.ref u0, .int (nI 6)] [(u0, .inr (9, [.ref u1, .ref u2, .ref u3, .ref u4, .ref u5, .ref u6, .int (nI kn), .ref u7, .int (bB ik), .ref u8, .int (nI ty), .ref u9, .int (nI ta), .int (bB iw), .ref u10, .ref u11])), (u5, .inl ((TY D)[0].1, 208, .inl M))] (fun r_ w_ => r_ = some (.int (sv_sk s)) ∧ w_ = [(u0, .inr (9, [.ref u1, .ref u2, .ref u3, .ref u4, .ref u5, .ref u6, .int (nI kn), .ref u7, .int (bB ik), .ref u8, .int (nI ty), .ref u9, .int (nI ta), .int (bB iw), .ref u10, .ref u11])), (u5, .inl ((TY D)[0].1, 208, .inl M))]) 0 0 := by
  refine CM_int (own := RX9) (cc := cX9_count) (maxL := 2) (L0 := [(0, .ref u0), (1, .int (nI 6))]) (by decide) rfl rfl (Nat.le_of_ble_eq_true rfl) rfl (fun X O E => ?_)
  refine g_iload_n O dX9_count_0 1 rfl rfl ?_
  refine g_tableIn (off := 119) (tgt := 120) O dX9_count_1 (by decide +kernel) (by decide +kernel) (by decide +kernel) (by decide) ?_
  refine g_aload_n O dX9_count_120 0 rfl rfl ?_
  refine g_get O hiX9_count_X9 0 rfl rfl 4 (by decide) (by decide +kernel) rfl dX9_count_121 ?_
  refine g_sipush (x := (nI 151)) O dX9_count_124 (by decide +kernel) ?_
  refine g_iload_n O dX9_count_127 1 rfl rfl ?_
  refine g_iaddN O dX9_count_128 ?_
  refine g_bipush (x := (nI 6)) O dX9_count_129 (by decide +kernel) ?_
  refine g_isubN O (by omega) dX9_count_131 ?_
  refine g_eq (st' := [.int (nI 151), .ref u5]) rfl rfl rfl ?_
  refine g_ialdN O 1 rfl (by omega) (by omega) dX9_count_132 ?_
  refine g_eq (st' := [.int (sv_sk s)]) (by rw [RM_sk hM]) rfl rfl ?_
  exact E 133 _ (sv_sk s) _ dX9_count_133 ⟨rfl, rfl⟩

set_option maxHeartbeats 4000000 in
set_option maxRecDepth 100000 in
theorem kX9_count_7 (l : Launch) (D : va_G) (z : Nat × Nat × Nat) (u0 : Nat) (u1 : Nat) (u2 : Nat) (u3 : Nat) (u4 : Nat) (u5 : Nat) (u6 : Nat) (u7 : Nat) (u8 : Nat) (u9 : Nat) (u10 : Nat) (u11 : Nat) (kn : Nat) (ik : Bool) (ty : Nat) (ta : Nat) (iw : Bool) (M : Nat → Int32) (s : SV) (hM : RM M s) : CM l yX9_count wsX9_count ({ frames := 6, cells := 0, slots := 0, locals := 134 } : Room) D z [.ref u0, .int (nI 7)] [(u0, .inr (9, [.ref u1, .ref u2, .ref u3, .ref u4, .ref u5, .ref u6, .int (nI kn), .ref u7, .int (bB ik), .ref u8, .int (nI ty), .ref u9, .int (nI ta), .int (bB iw), .ref u10, .ref u11])), (u5, .inl ((TY D)[0].1, 208, .inl M))] (fun r_ w_ => r_ = some (.int (sv_mu s)) ∧ w_ = [(u0, .inr (9, [.ref u1, .ref u2, .ref u3, .ref u4, .ref u5, .ref u6, .int (nI kn), .ref u7, .int (bB ik), .ref u8, .int (nI ty), .ref u9, .int (nI ta), .int (bB iw), .ref u10, .ref u11])), (u5, .inl ((TY D)[0].1, 208, .inl M))]) 0 0 := by
  refine CM_int (own := RX9) (cc := cX9_count) (maxL := 2) (L0 := [(0, .ref u0), (1, .int (nI 7))]) (by decide) rfl rfl (Nat.le_of_ble_eq_true rfl) rfl (fun X O E => ?_)
  refine g_iload_n O dX9_count_0 1 rfl rfl ?_
  refine g_tableIn (off := 119) (tgt := 120) O dX9_count_1 (by decide +kernel) (by decide +kernel) (by decide +kernel) (by decide) ?_
  refine g_aload_n O dX9_count_120 0 rfl rfl ?_
  refine g_get O hiX9_count_X9 0 rfl rfl 4 (by decide) (by decide +kernel) rfl dX9_count_121 ?_
  refine g_sipush (x := (nI 151)) O dX9_count_124 (by decide +kernel) ?_
  refine g_iload_n O dX9_count_127 1 rfl rfl ?_
  refine g_iaddN O dX9_count_128 ?_
  refine g_bipush (x := (nI 6)) O dX9_count_129 (by decide +kernel) ?_
  refine g_isubN O (by omega) dX9_count_131 ?_
  refine g_eq (st' := [.int (nI 152), .ref u5]) rfl rfl rfl ?_
  refine g_ialdN O 1 rfl (by omega) (by omega) dX9_count_132 ?_
  refine g_eq (st' := [.int (sv_mu s)]) (by rw [RM_mu hM]) rfl rfl ?_
  exact E 133 _ (sv_mu s) _ dX9_count_133 ⟨rfl, rfl⟩

set_option maxHeartbeats 4000000 in
set_option maxRecDepth 100000 in
theorem kX9_count_8 (l : Launch) (D : va_G) (z : Nat × Nat × Nat) (u0 : Nat) (u1 : Nat) (u2 : Nat) (u3 : Nat) (u4 : Nat) (u5 : Nat) (u6 : Nat) (u7 : Nat) (u8 : Nat) (u9 : Nat) (u10 : Nat) (u11 : Nat) (kn : Nat) (ik : Bool) (ty : Nat) (ta : Nat) (iw : Bool) (M : Nat → Int32) (s : SV) (hM : RM M s) : CM l yX9_count wsX9_count ({ frames := 6, cells := 0, slots := 0, locals := 134 } : Room) D z [.ref u0, .int (nI 8)] [(u0, .inr (9, [.ref u1, .ref u2, .ref u3, .ref u4, .ref u5, .ref u6, .int (nI kn), .ref u7, .int (bB ik), .ref u8, .int (nI ty), .ref u9, .int (nI ta), .int (bB iw), .ref u10, .ref u11])), (u5, .inl ((TY D)[0].1, 208, .inl M))] (fun r_ w_ => r_ = some (.int (laM (sv_la s))) ∧ w_ = [(u0, .inr (9, [.ref u1, .ref u2, .ref u3, .ref u4, .ref u5, .ref u6, .int (nI kn), .ref u7, .int (bB ik), .ref u8, .int (nI ty), .ref u9, .int (nI ta), .int (bB iw), .ref u10, .ref u11])), (u5, .inl ((TY D)[0].1, 208, .inl M))]) 0 0 := by
  refine CM_int (own := RX9) (cc := cX9_count) (maxL := 2) (L0 := [(0, .ref u0), (1, .int (nI 8))]) (by decide) rfl rfl (Nat.le_of_ble_eq_true rfl) rfl (fun X O E => ?_)
  refine g_iload_n O dX9_count_0 1 rfl rfl ?_
  refine g_tableIn (off := 119) (tgt := 120) O dX9_count_1 (by decide +kernel) (by decide +kernel) (by decide +kernel) (by decide) ?_
  refine g_aload_n O dX9_count_120 0 rfl rfl ?_
  refine g_get O hiX9_count_X9 0 rfl rfl 4 (by decide) (by decide +kernel) rfl dX9_count_121 ?_
  refine g_sipush (x := (nI 151)) O dX9_count_124 (by decide +kernel) ?_
  refine g_iload_n O dX9_count_127 1 rfl rfl ?_
  refine g_iaddN O dX9_count_128 ?_
  refine g_bipush (x := (nI 6)) O dX9_count_129 (by decide +kernel) ?_
  refine g_isubN O (by omega) dX9_count_131 ?_
  refine g_eq (st' := [.int (nI 153), .ref u5]) rfl rfl rfl ?_
  refine g_ialdN O 1 rfl (by omega) (by omega) dX9_count_132 ?_
  refine g_eq (st' := [.int (laM (sv_la s))]) (by rw [RM_la hM]) rfl rfl ?_
  exact E 133 _ (laM (sv_la s)) _ dX9_count_133 ⟨rfl, rfl⟩

set_option maxHeartbeats 4000000 in
set_option maxRecDepth 100000 in
theorem kX9_count_9 (l : Launch) (D : va_G) (z : Nat × Nat × Nat) (u0 : Nat) (u1 : Nat) (u2 : Nat) (u3 : Nat) (u4 : Nat) (u5 : Nat) (u6 : Nat) (u7 : Nat) (u8 : Nat) (u9 : Nat) (u10 : Nat) (u11 : Nat) (kn : Nat) (ik : Bool) (ty : Nat) (ta : Nat) (iw : Bool) (M : Nat → Int32) (s : SV) (hM : RM M s) (hnc : sv_nc s ≤ 4) (hcc : ∀ j, j < sv_nc s → sv_cc s j < 12 ∧ sv_cr s j < 12) : CM l yX9_count wsX9_count ({ frames := 6, cells := 0, slots := 0, locals := 134 } : Room) D z [.ref u0, .int (nI 9)] [(u0, .inr (9, [.ref u1, .ref u2, .ref u3, .ref u4, .ref u5, .ref u6, .int (nI kn), .ref u7, .int (bB ik), .ref u8, .int (nI ty), .ref u9, .int (nI ta), .int (bB iw), .ref u10, .ref u11])), (u4, .inl ((TY D)[0].1, 6912, .inl SWT)), (u5, .inl ((TY D)[0].1, 208, .inl M))] (fun r_ w_ => r_ = some (.int (nI (cntB (fun w => psO s w 48) 48))) ∧ w_ = [(u0, .inr (9, [.ref u1, .ref u2, .ref u3, .ref u4, .ref u5, .ref u6, .int (nI kn), .ref u7, .int (bB ik), .ref u8, .int (nI ty), .ref u9, .int (nI ta), .int (bB iw), .ref u10, .ref u11])), (u4, .inl ((TY D)[0].1, 6912, .inl SWT)), (u5, .inl ((TY D)[0].1, 208, .inl M))]) 0 0 := by
  refine CM_int (own := RX9) (cc := cX9_count) (maxL := 2) (L0 := [(0, .ref u0), (1, .int (nI 9))]) (by decide) rfl rfl (Nat.le_of_ble_eq_true rfl) rfl (fun X O E => ?_)
  refine g_iload_n O dX9_count_0 1 rfl rfl ?_
  refine g_tableIn (off := 133) (tgt := 134) O dX9_count_1 (by decide +kernel) (by decide +kernel) (by decide +kernel) (by decide) ?_
  refine g_aload_n O dX9_count_134 0 rfl rfl ?_
  refine g_callV (As := []) (wr := []) O (kX9_possibles l D z u0 u1 u2 u3 u4 u5 u6 u7 u8 u9 u10 u11 kn ik ty ta iw M s (by first | assumption | omega) (by first | assumption | omega) (by first | assumption | omega)) gX9_count_X9_possibles rfl rfl rfl 0 (by decide +kernel) (by decide) (by decide) (q0 := 0) rfl rfl rfl [0, 1, 2] [] rfl (by decide) rfl (by decide) (by decide) rfl rfl (Nat.le_of_ble_eq_true rfl) dX9_count_135 (fun r_1 w_2 hp => ?_)
  obtain ⟨rfl, rfl⟩ := hp
  refine g_eq (st' := [.int (nI (cntB (fun w => psO s w 48) 48))]) (ws' := [(u0, .inr (9, [.ref u1, .ref u2, .ref u3, .ref u4, .ref u5, .ref u6, .int (nI kn), .ref u7, .int (bB ik), .ref u8, .int (nI ty), .ref u9, .int (nI ta), .int (bB iw), .ref u10, .ref u11])), (u4, .inl ((TY D)[0].1, 6912, .inl SWT)), (u5, .inl ((TY D)[0].1, 208, .inl M))]) rfl rfl rfl ?_
  exact E 138 _ (nI (cntB (fun w => psO s w 48) 48)) _ dX9_count_138 ⟨rfl, rfl⟩

set_option maxHeartbeats 4000000 in
set_option maxRecDepth 100000 in
theorem kX9_count_10 (l : Launch) (D : va_G) (z : Nat × Nat × Nat) (u0 : Nat) (u1 : Nat) (u2 : Nat) (u3 : Nat) (u4 : Nat) (u5 : Nat) (u6 : Nat) (u7 : Nat) (u8 : Nat) (u9 : Nat) (u10 : Nat) (u11 : Nat) (kn : Nat) (ik : Bool) (ty : Nat) (ta : Nat) (iw : Bool) (M : Nat → Int32) (s : SV) (hM : RM M s) (hg : ∀ j, j < 144 → sv_g s j < 1073741824) : CM l yX9_count wsX9_count ({ frames := 6, cells := 0, slots := 0, locals := 134 } : Room) D z [.ref u0, .int (nI 10)] [(u0, .inr (9, [.ref u1, .ref u2, .ref u3, .ref u4, .ref u5, .ref u6, .int (nI kn), .ref u7, .int (bB ik), .ref u8, .int (nI ty), .ref u9, .int (nI ta), .int (bB iw), .ref u10, .ref u11])), (u5, .inl ((TY D)[0].1, 208, .inl M))] (fun r_ w_ => r_ = some (.int (nI (mxN (sv_g s) 144))) ∧ w_ = [(u0, .inr (9, [.ref u1, .ref u2, .ref u3, .ref u4, .ref u5, .ref u6, .int (nI kn), .ref u7, .int (bB ik), .ref u8, .int (nI ty), .ref u9, .int (nI ta), .int (bB iw), .ref u10, .ref u11])), (u5, .inl ((TY D)[0].1, 208, .inl M))]) 0 0 := by
  refine CM_int (own := RX9) (cc := cX9_count) (maxL := 2) (L0 := [(0, .ref u0), (1, .int (nI 10))]) (by decide) rfl rfl (Nat.le_of_ble_eq_true rfl) rfl (fun X O E => ?_)
  refine g_iload_n O dX9_count_0 1 rfl rfl ?_
  refine g_tableIn (off := 138) (tgt := 139) O dX9_count_1 (by decide +kernel) (by decide +kernel) (by decide +kernel) (by decide) ?_
  refine g_aload_n O dX9_count_139 0 rfl rfl ?_
  refine g_callV (As := []) (wr := []) O (kX9_mostGrains l D z u0 u1 u2 u3 u4 u5 u6 u7 u8 u9 u10 u11 kn ik ty ta iw M s (by first | assumption | omega) (by first | assumption | omega)) gX9_count_X9_mostGrains rfl rfl rfl 0 (by decide +kernel) (by decide) (by decide) (q0 := 0) rfl rfl rfl [0, 1] [] rfl (by decide) rfl (by decide) (by decide) rfl rfl (Nat.le_of_ble_eq_true rfl) dX9_count_140 (fun r_1 w_2 hp => ?_)
  obtain ⟨rfl, rfl⟩ := hp
  refine g_eq (st' := [.int (nI (mxN (sv_g s) 144))]) (ws' := [(u0, .inr (9, [.ref u1, .ref u2, .ref u3, .ref u4, .ref u5, .ref u6, .int (nI kn), .ref u7, .int (bB ik), .ref u8, .int (nI ty), .ref u9, .int (nI ta), .int (bB iw), .ref u10, .ref u11])), (u5, .inl ((TY D)[0].1, 208, .inl M))]) rfl rfl rfl ?_
  exact E 143 _ (nI (mxN (sv_g s) 144)) _ dX9_count_143 ⟨rfl, rfl⟩

set_option maxHeartbeats 4000000 in
set_option maxRecDepth 100000 in
theorem kX9_count_11 (l : Launch) (D : va_G) (z : Nat × Nat × Nat) (u0 : Nat) (u1 : Nat) (u2 : Nat) (u3 : Nat) (u4 : Nat) (u5 : Nat) (u6 : Nat) (u7 : Nat) (u8 : Nat) (u9 : Nat) (u10 : Nat) (u11 : Nat) (kn : Nat) (ik : Bool) (ty : Nat) (ta : Nat) (iw : Bool) (M : Nat → Int32) (s : SV) (hM : RM M s) : CM l yX9_count wsX9_count ({ frames := 6, cells := 0, slots := 0, locals := 134 } : Room) D z [.ref u0, .int (nI 11)] [(u0, .inr (9, [.ref u1, .ref u2, .ref u3, .ref u4, .ref u5, .ref u6, .int (nI kn), .ref u7, .int (bB ik), .ref u8, .int (nI ty), .ref u9, .int (nI ta), .int (bB iw), .ref u10, .ref u11])), (u5, .inl ((TY D)[0].1, 208, .inl M))] (fun r_ w_ => r_ = some (.int (sv_se s 0)) ∧ w_ = [(u0, .inr (9, [.ref u1, .ref u2, .ref u3, .ref u4, .ref u5, .ref u6, .int (nI kn), .ref u7, .int (bB ik), .ref u8, .int (nI ty), .ref u9, .int (nI ta), .int (bB iw), .ref u10, .ref u11])), (u5, .inl ((TY D)[0].1, 208, .inl M))]) 0 0 := by
  refine CM_int (own := RX9) (cc := cX9_count) (maxL := 2) (L0 := [(0, .ref u0), (1, .int (nI 11))]) (by decide) rfl rfl (Nat.le_of_ble_eq_true rfl) rfl (fun X O E => ?_)
  refine g_iload_n O dX9_count_0 1 rfl rfl ?_
  refine g_tableIn (off := 143) (tgt := 144) O dX9_count_1 (by decide +kernel) (by decide +kernel) (by decide +kernel) (by decide) ?_
  refine g_aload_n O dX9_count_144 0 rfl rfl ?_
  refine g_get O hiX9_count_X9 0 rfl rfl 4 (by decide) (by decide +kernel) rfl dX9_count_145 ?_
  refine g_sipush (x := (nI 144)) O dX9_count_148 (by decide +kernel) ?_
  refine g_iload_n O dX9_count_151 1 rfl rfl ?_
  refine g_iaddN O dX9_count_152 ?_
  refine g_bipush (x := (nI 11)) O dX9_count_153 (by decide +kernel) ?_
  refine g_isubN O (by omega) dX9_count_155 ?_
  refine g_eq (st' := [.int (nI 144), .ref u5]) rfl rfl rfl ?_
  refine g_ialdN O 1 rfl (by omega) (by omega) dX9_count_156 ?_
  refine g_eq (st' := [.int (sv_se s 0)]) (by rw [RM_s0 hM]) rfl rfl ?_
  exact E 157 _ (sv_se s 0) _ dX9_count_157 ⟨rfl, rfl⟩

set_option maxHeartbeats 4000000 in
set_option maxRecDepth 100000 in
theorem kX9_count_12 (l : Launch) (D : va_G) (z : Nat × Nat × Nat) (u0 : Nat) (u1 : Nat) (u2 : Nat) (u3 : Nat) (u4 : Nat) (u5 : Nat) (u6 : Nat) (u7 : Nat) (u8 : Nat) (u9 : Nat) (u10 : Nat) (u11 : Nat) (kn : Nat) (ik : Bool) (ty : Nat) (ta : Nat) (iw : Bool) (M : Nat → Int32) (s : SV) (hM : RM M s) : CM l yX9_count wsX9_count ({ frames := 6, cells := 0, slots := 0, locals := 134 } : Room) D z [.ref u0, .int (nI 12)] [(u0, .inr (9, [.ref u1, .ref u2, .ref u3, .ref u4, .ref u5, .ref u6, .int (nI kn), .ref u7, .int (bB ik), .ref u8, .int (nI ty), .ref u9, .int (nI ta), .int (bB iw), .ref u10, .ref u11])), (u5, .inl ((TY D)[0].1, 208, .inl M))] (fun r_ w_ => r_ = some (.int (sv_se s 1)) ∧ w_ = [(u0, .inr (9, [.ref u1, .ref u2, .ref u3, .ref u4, .ref u5, .ref u6, .int (nI kn), .ref u7, .int (bB ik), .ref u8, .int (nI ty), .ref u9, .int (nI ta), .int (bB iw), .ref u10, .ref u11])), (u5, .inl ((TY D)[0].1, 208, .inl M))]) 0 0 := by
  refine CM_int (own := RX9) (cc := cX9_count) (maxL := 2) (L0 := [(0, .ref u0), (1, .int (nI 12))]) (by decide) rfl rfl (Nat.le_of_ble_eq_true rfl) rfl (fun X O E => ?_)
  refine g_iload_n O dX9_count_0 1 rfl rfl ?_
  refine g_tableIn (off := 143) (tgt := 144) O dX9_count_1 (by decide +kernel) (by decide +kernel) (by decide +kernel) (by decide) ?_
  refine g_aload_n O dX9_count_144 0 rfl rfl ?_
  refine g_get O hiX9_count_X9 0 rfl rfl 4 (by decide) (by decide +kernel) rfl dX9_count_145 ?_
  refine g_sipush (x := (nI 144)) O dX9_count_148 (by decide +kernel) ?_
  refine g_iload_n O dX9_count_151 1 rfl rfl ?_
  refine g_iaddN O dX9_count_152 ?_
  refine g_bipush (x := (nI 11)) O dX9_count_153 (by decide +kernel) ?_
  refine g_isubN O (by omega) dX9_count_155 ?_
  refine g_eq (st' := [.int (nI 145), .ref u5]) rfl rfl rfl ?_
  refine g_ialdN O 1 rfl (by omega) (by omega) dX9_count_156 ?_
  refine g_eq (st' := [.int (sv_se s 1)]) (by rw [RM_s1 hM]) rfl rfl ?_
  exact E 157 _ (sv_se s 1) _ dX9_count_157 ⟨rfl, rfl⟩

set_option maxHeartbeats 4000000 in
set_option maxRecDepth 100000 in
theorem kX9_count_13 (l : Launch) (D : va_G) (z : Nat × Nat × Nat) (u0 : Nat) (u1 : Nat) (u2 : Nat) (u3 : Nat) (u4 : Nat) (u5 : Nat) (u6 : Nat) (u7 : Nat) (u8 : Nat) (u9 : Nat) (u10 : Nat) (u11 : Nat) (kn : Nat) (ik : Bool) (ty : Nat) (ta : Nat) (iw : Bool) (M : Nat → Int32) (s : SV) (hM : RM M s) : CM l yX9_count wsX9_count ({ frames := 6, cells := 0, slots := 0, locals := 134 } : Room) D z [.ref u0, .int (nI 13)] [(u0, .inr (9, [.ref u1, .ref u2, .ref u3, .ref u4, .ref u5, .ref u6, .int (nI kn), .ref u7, .int (bB ik), .ref u8, .int (nI ty), .ref u9, .int (nI ta), .int (bB iw), .ref u10, .ref u11])), (u5, .inl ((TY D)[0].1, 208, .inl M))] (fun r_ w_ => r_ = some (.int (sv_se s 2)) ∧ w_ = [(u0, .inr (9, [.ref u1, .ref u2, .ref u3, .ref u4, .ref u5, .ref u6, .int (nI kn), .ref u7, .int (bB ik), .ref u8, .int (nI ty), .ref u9, .int (nI ta), .int (bB iw), .ref u10, .ref u11])), (u5, .inl ((TY D)[0].1, 208, .inl M))]) 0 0 := by
  refine CM_int (own := RX9) (cc := cX9_count) (maxL := 2) (L0 := [(0, .ref u0), (1, .int (nI 13))]) (by decide) rfl rfl (Nat.le_of_ble_eq_true rfl) rfl (fun X O E => ?_)
  refine g_iload_n O dX9_count_0 1 rfl rfl ?_
  refine g_tableIn (off := 143) (tgt := 144) O dX9_count_1 (by decide +kernel) (by decide +kernel) (by decide +kernel) (by decide) ?_
  refine g_aload_n O dX9_count_144 0 rfl rfl ?_
  refine g_get O hiX9_count_X9 0 rfl rfl 4 (by decide) (by decide +kernel) rfl dX9_count_145 ?_
  refine g_sipush (x := (nI 144)) O dX9_count_148 (by decide +kernel) ?_
  refine g_iload_n O dX9_count_151 1 rfl rfl ?_
  refine g_iaddN O dX9_count_152 ?_
  refine g_bipush (x := (nI 11)) O dX9_count_153 (by decide +kernel) ?_
  refine g_isubN O (by omega) dX9_count_155 ?_
  refine g_eq (st' := [.int (nI 146), .ref u5]) rfl rfl rfl ?_
  refine g_ialdN O 1 rfl (by omega) (by omega) dX9_count_156 ?_
  refine g_eq (st' := [.int (sv_se s 2)]) (by rw [RM_s2 hM]) rfl rfl ?_
  exact E 157 _ (sv_se s 2) _ dX9_count_157 ⟨rfl, rfl⟩

set_option maxHeartbeats 4000000 in
set_option maxRecDepth 100000 in
theorem kX9_count_14 (l : Launch) (D : va_G) (z : Nat × Nat × Nat) (u0 : Nat) (u1 : Nat) (u2 : Nat) (u3 : Nat) (u4 : Nat) (u5 : Nat) (u6 : Nat) (u7 : Nat) (u8 : Nat) (u9 : Nat) (u10 : Nat) (u11 : Nat) (kn : Nat) (ik : Bool) (ty : Nat) (ta : Nat) (iw : Bool) (M : Nat → Int32) (s : SV) (hM : RM M s) : CM l yX9_count wsX9_count ({ frames := 6, cells := 0, slots := 0, locals := 134 } : Room) D z [.ref u0, .int (nI 14)] [(u0, .inr (9, [.ref u1, .ref u2, .ref u3, .ref u4, .ref u5, .ref u6, .int (nI kn), .ref u7, .int (bB ik), .ref u8, .int (nI ty), .ref u9, .int (nI ta), .int (bB iw), .ref u10, .ref u11])), (u5, .inl ((TY D)[0].1, 208, .inl M))] (fun r_ w_ => r_ = some (.int (sv_se s 3)) ∧ w_ = [(u0, .inr (9, [.ref u1, .ref u2, .ref u3, .ref u4, .ref u5, .ref u6, .int (nI kn), .ref u7, .int (bB ik), .ref u8, .int (nI ty), .ref u9, .int (nI ta), .int (bB iw), .ref u10, .ref u11])), (u5, .inl ((TY D)[0].1, 208, .inl M))]) 0 0 := by
  refine CM_int (own := RX9) (cc := cX9_count) (maxL := 2) (L0 := [(0, .ref u0), (1, .int (nI 14))]) (by decide) rfl rfl (Nat.le_of_ble_eq_true rfl) rfl (fun X O E => ?_)
  refine g_iload_n O dX9_count_0 1 rfl rfl ?_
  refine g_tableIn (off := 143) (tgt := 144) O dX9_count_1 (by decide +kernel) (by decide +kernel) (by decide +kernel) (by decide) ?_
  refine g_aload_n O dX9_count_144 0 rfl rfl ?_
  refine g_get O hiX9_count_X9 0 rfl rfl 4 (by decide) (by decide +kernel) rfl dX9_count_145 ?_
  refine g_sipush (x := (nI 144)) O dX9_count_148 (by decide +kernel) ?_
  refine g_iload_n O dX9_count_151 1 rfl rfl ?_
  refine g_iaddN O dX9_count_152 ?_
  refine g_bipush (x := (nI 11)) O dX9_count_153 (by decide +kernel) ?_
  refine g_isubN O (by omega) dX9_count_155 ?_
  refine g_eq (st' := [.int (nI 147), .ref u5]) rfl rfl rfl ?_
  refine g_ialdN O 1 rfl (by omega) (by omega) dX9_count_156 ?_
  refine g_eq (st' := [.int (sv_se s 3)]) (by rw [RM_s3 hM]) rfl rfl ?_
  exact E 157 _ (sv_se s 3) _ dX9_count_157 ⟨rfl, rfl⟩

set_option maxHeartbeats 4000000 in
set_option maxRecDepth 100000 in
theorem kX9_count_15 (l : Launch) (D : va_G) (z : Nat × Nat × Nat) (u0 : Nat) (u1 : Nat) (u2 : Nat) (u3 : Nat) (u4 : Nat) (u5 : Nat) (u6 : Nat) (u7 : Nat) (u8 : Nat) (u9 : Nat) (u10 : Nat) (u11 : Nat) (kn : Nat) (ik : Bool) (ty : Nat) (ta : Nat) (iw : Bool)  : CM l yX9_count wsX9_count ({ frames := 6, cells := 0, slots := 0, locals := 134 } : Room) D z [.ref u0, .int (nI 15)] [(u0, .inr (9, [.ref u1, .ref u2, .ref u3, .ref u4, .ref u5, .ref u6, .int (nI kn), .ref u7, .int (bB ik), .ref u8, .int (nI ty), .ref u9, .int (nI ta), .int (bB iw), .ref u10, .ref u11]))] (fun r_ w_ => r_ = some (.int (nI kn)) ∧ w_ = [(u0, .inr (9, [.ref u1, .ref u2, .ref u3, .ref u4, .ref u5, .ref u6, .int (nI kn), .ref u7, .int (bB ik), .ref u8, .int (nI ty), .ref u9, .int (nI ta), .int (bB iw), .ref u10, .ref u11]))]) 0 0 := by
  refine CM_int (own := RX9) (cc := cX9_count) (maxL := 2) (L0 := [(0, .ref u0), (1, .int (nI 15))]) (by decide) rfl rfl (Nat.le_of_ble_eq_true rfl) rfl (fun X O E => ?_)
  refine g_iload_n O dX9_count_0 1 rfl rfl ?_
  refine g_tableIn (off := 157) (tgt := 158) O dX9_count_1 (by decide +kernel) (by decide +kernel) (by decide +kernel) (by decide) ?_
  refine g_aload_n O dX9_count_158 0 rfl rfl ?_
  refine g_get O hiX9_count_X9 0 rfl rfl 6 (by decide) (by decide +kernel) rfl dX9_count_159 ?_
  exact E 162 _ (nI kn) _ dX9_count_162 ⟨rfl, rfl⟩

set_option maxHeartbeats 4000000 in
set_option maxRecDepth 100000 in
theorem kX9_count_16 (l : Launch) (D : va_G) (z : Nat × Nat × Nat) (u0 : Nat) (u1 : Nat) (u2 : Nat) (u3 : Nat) (u4 : Nat) (u5 : Nat) (u6 : Nat) (u7 : Nat) (u8 : Nat) (u9 : Nat) (u10 : Nat) (u11 : Nat) (kn : Nat) (ik : Bool) (ty : Nat) (ta : Nat) (iw : Bool)  : CM l yX9_count wsX9_count ({ frames := 6, cells := 0, slots := 0, locals := 134 } : Room) D z [.ref u0, .int (nI 16)] [(u0, .inr (9, [.ref u1, .ref u2, .ref u3, .ref u4, .ref u5, .ref u6, .int (nI kn), .ref u7, .int (bB ik), .ref u8, .int (nI ty), .ref u9, .int (nI ta), .int (bB iw), .ref u10, .ref u11]))] (fun r_ w_ => r_ = some (.int (nI ty)) ∧ w_ = [(u0, .inr (9, [.ref u1, .ref u2, .ref u3, .ref u4, .ref u5, .ref u6, .int (nI kn), .ref u7, .int (bB ik), .ref u8, .int (nI ty), .ref u9, .int (nI ta), .int (bB iw), .ref u10, .ref u11]))]) 0 0 := by
  refine CM_int (own := RX9) (cc := cX9_count) (maxL := 2) (L0 := [(0, .ref u0), (1, .int (nI 16))]) (by decide) rfl rfl (Nat.le_of_ble_eq_true rfl) rfl (fun X O E => ?_)
  refine g_iload_n O dX9_count_0 1 rfl rfl ?_
  refine g_tableIn (off := 162) (tgt := 163) O dX9_count_1 (by decide +kernel) (by decide +kernel) (by decide +kernel) (by decide) ?_
  refine g_aload_n O dX9_count_163 0 rfl rfl ?_
  refine g_get O hiX9_count_X9 0 rfl rfl 10 (by decide) (by decide +kernel) rfl dX9_count_164 ?_
  exact E 167 _ (nI ty) _ dX9_count_167 ⟨rfl, rfl⟩

theorem hiX9_clampAt_X9 : ∀ w ∈ wsX90, w ∈ wsX9_clampAt := by decide +kernel
set_option maxHeartbeats 4000000 in
set_option maxRecDepth 100000 in
theorem kX9_clampAt_b1 (l : Launch) (D : va_G) (z : Nat × Nat × Nat) (u0 : Nat) (u1 : Nat) (u2 : Nat) (u3 : Nat) (u4 : Nat) (u5 : Nat) (u6 : Nat) (u7 : Nat) (u8 : Nat) (u9 : Nat) (u10 : Nat) (u11 : Nat) (kn : Nat) (ik : Bool) (ty : Nat) (ta : Nat) (iw : Bool) (M : Nat → Int32) (s : SV) (x : Int32) (r : Bool) (hM : RM M s) (hnc : sv_nc s ≤ 4) (hb : rgB x (sv_nc s) = false) : CM l yX9_clampAt wsX9_clampAt ({ frames := 1, cells := 0, slots := 0, locals := 22 } : Room) D z [.ref u0, .int x, .int (bB r)] [(u0, .inr (9, [.ref u1, .ref u2, .ref u3, .ref u4, .ref u5, .ref u6, .int (nI kn), .ref u7, .int (bB ik), .ref u8, .int (nI ty), .ref u9, .int (nI ta), .int (bB iw), .ref u10, .ref u11])), (u5, .inl ((TY D)[0].1, 208, .inl M))] (fun r_ w_ => r_ = some (.int (-1)) ∧ w_ = [(u0, .inr (9, [.ref u1, .ref u2, .ref u3, .ref u4, .ref u5, .ref u6, .int (nI kn), .ref u7, .int (bB ik), .ref u8, .int (nI ty), .ref u9, .int (nI ta), .int (bB iw), .ref u10, .ref u11])), (u5, .inl ((TY D)[0].1, 208, .inl M))]) 0 0 := by
  refine CM_int (own := RX9) (cc := cX9_clampAt) (maxL := 3) (L0 := [(0, .ref u0), (1, .int x), (2, .int (bB r))]) (by decide) rfl rfl (Nat.le_of_ble_eq_true rfl) rfl (fun X O E => ?_)
  refine g_iload_n O dX9_clampAt_0 1 rfl rfl ?_
  refine g_iconst (x := (nI 0)) O dX9_clampAt_1 (by decide +kernel) ?_
  refine g_aload_n O dX9_clampAt_2 0 rfl rfl ?_
  refine g_get O hiX9_clampAt_X9 0 rfl rfl 4 (by decide) (by decide +kernel) rfl dX9_clampAt_3 ?_
  refine g_sipush (x := (nI 154)) O dX9_clampAt_6 (by decide +kernel) ?_
  refine g_ialdN O 1 rfl (by omega) (by omega) dX9_clampAt_9 ?_
  refine g_eq (st' := [.int (nI (sv_nc s)), .int (nI 0), .int x]) (by rw [RM_nc hM]) rfl rfl ?_
  refine g_iconst (x := (nI 1)) O dX9_clampAt_10 (by decide +kernel) ?_
  refine g_isub O dX9_clampAt_11 ?_
  refine g_callS (As := [.int x, .int (nI 0), .int ((nI (sv_nc s)) - (nI 1))]) (wr := [(u0, .inr (9, [.ref u1, .ref u2, .ref u3, .ref u4, .ref u5, .ref u6, .int (nI kn), .ref u7, .int (bB ik), .ref u8, .int (nI ty), .ref u9, .int (nI ta), .int (bB iw), .ref u10, .ref u11])), (u5, .inl ((TY D)[0].1, 208, .inl M))]) O (kX9_in l D z x (nI 0) ((nI (sv_nc s)) - (nI 1)) ) gX9_clampAt_X9_in rfl rfl rfl 3 (by decide +kernel) (by decide) (by decide) [] [0, 1] rfl (by decide) rfl (by decide) (by decide) rfl rfl (Nat.le_of_ble_eq_true rfl) dX9_clampAt_12 (fun r_1 w_2 hp => ?_)
  obtain ⟨rfl, rfl⟩ := hp
  refine g_eq (st' := [.int (bB (inI x (nI 0) ((nI (sv_nc s)) - (nI 1))))]) (ws' := [(u0, .inr (9, [.ref u1, .ref u2, .ref u3, .ref u4, .ref u5, .ref u6, .int (nI kn), .ref u7, .int (bB ik), .ref u8, .int (nI ty), .ref u9, .int (nI ta), .int (bB iw), .ref u10, .ref u11])), (u5, .inl ((TY D)[0].1, 208, .inl M))]) rfl rfl rfl ?_
  refine g_eq (st' := [.int (bB (rgB x (sv_nc s)))]) (by rw [inI_n1 _ hnc]) rfl rfl ?_
  refine g_if_neB (tgt := 22) O dX9_clampAt_15 (by decide) (fun c_3 => absurd c_3 (by rw [hb]; decide)) (fun c_3 => ?_)
  refine g_iconst (x := (-1)) O dX9_clampAt_18 (by decide +kernel) ?_
  refine g_goto (tgt := 55) O dX9_clampAt_19 (by decide) ?_
  exact E 55 _ (-1) _ dX9_clampAt_55 ⟨rfl, rfl⟩

set_option maxHeartbeats 4000000 in
set_option maxRecDepth 100000 in
theorem kX9_clampAt_ok (l : Launch) (D : va_G) (z : Nat × Nat × Nat) (u0 : Nat) (u1 : Nat) (u2 : Nat) (u3 : Nat) (u4 : Nat) (u5 : Nat) (u6 : Nat) (u7 : Nat) (u8 : Nat) (u9 : Nat) (u10 : Nat) (u11 : Nat) (kn : Nat) (ik : Bool) (ty : Nat) (ta : Nat) (iw : Bool) (M : Nat → Int32) (s : SV) (x : Nat) (r : Bool) (hM : RM M s) (hnc : sv_nc s ≤ 4) (hcc : ∀ j, j < sv_nc s → sv_cc s j < 12 ∧ sv_cr s j < 12) (hx : x < sv_nc s) : CM l yX9_clampAt wsX9_clampAt ({ frames := 1, cells := 0, slots := 0, locals := 22 } : Room) D z [.ref u0, .int (nI x), .int (bB r)] [(u0, .inr (9, [.ref u1, .ref u2, .ref u3, .ref u4, .ref u5, .ref u6, .int (nI kn), .ref u7, .int (bB ik), .ref u8, .int (nI ty), .ref u9, .int (nI ta), .int (bB iw), .ref u10, .ref u11])), (u5, .inl ((TY D)[0].1, 208, .inl M))] (fun r_ w_ => r_ = some (.int (nI (if r = true then sv_cr s x else sv_cc s x))) ∧ w_ = [(u0, .inr (9, [.ref u1, .ref u2, .ref u3, .ref u4, .ref u5, .ref u6, .int (nI kn), .ref u7, .int (bB ik), .ref u8, .int (nI ty), .ref u9, .int (nI ta), .int (bB iw), .ref u10, .ref u11])), (u5, .inl ((TY D)[0].1, 208, .inl M))]) 0 0 := by
  refine CM_int (own := RX9) (cc := cX9_clampAt) (maxL := 3) (L0 := [(0, .ref u0), (1, .int (nI x)), (2, .int (bB r))]) (by decide) rfl rfl (Nat.le_of_ble_eq_true rfl) rfl (fun X O E => ?_)
  have hcx := hcc x hx
  refine g_iload_n O dX9_clampAt_0 1 rfl rfl ?_
  refine g_iconst (x := (nI 0)) O dX9_clampAt_1 (by decide +kernel) ?_
  refine g_aload_n O dX9_clampAt_2 0 rfl rfl ?_
  refine g_get O hiX9_clampAt_X9 0 rfl rfl 4 (by decide) (by decide +kernel) rfl dX9_clampAt_3 ?_
  refine g_sipush (x := (nI 154)) O dX9_clampAt_6 (by decide +kernel) ?_
  refine g_ialdN O 1 rfl (by omega) (by omega) dX9_clampAt_9 ?_
  refine g_eq (st' := [.int (nI (sv_nc s)), .int (nI 0), .int (nI x)]) (by rw [RM_nc hM]) rfl rfl ?_
  refine g_iconst (x := (nI 1)) O dX9_clampAt_10 (by decide +kernel) ?_
  refine g_isub O dX9_clampAt_11 ?_
  refine g_callS (As := [.int (nI x), .int (nI 0), .int ((nI (sv_nc s)) - (nI 1))]) (wr := [(u0, .inr (9, [.ref u1, .ref u2, .ref u3, .ref u4, .ref u5, .ref u6, .int (nI kn), .ref u7, .int (bB ik), .ref u8, .int (nI ty), .ref u9, .int (nI ta), .int (bB iw), .ref u10, .ref u11])), (u5, .inl ((TY D)[0].1, 208, .inl M))]) O (kX9_in l D z (nI x) (nI 0) ((nI (sv_nc s)) - (nI 1)) ) gX9_clampAt_X9_in rfl rfl rfl 3 (by decide +kernel) (by decide) (by decide) [] [0, 1] rfl (by decide) rfl (by decide) (by decide) rfl rfl (Nat.le_of_ble_eq_true rfl) dX9_clampAt_12 (fun r_1 w_2 hp => ?_)
  obtain ⟨rfl, rfl⟩ := hp
  refine g_eq (st' := [.int (bB (inI (nI x) (nI 0) ((nI (sv_nc s)) - (nI 1))))]) (ws' := [(u0, .inr (9, [.ref u1, .ref u2, .ref u3, .ref u4, .ref u5, .ref u6, .int (nI kn), .ref u7, .int (bB ik), .ref u8, .int (nI ty), .ref u9, .int (nI ta), .int (bB iw), .ref u10, .ref u11])), (u5, .inl ((TY D)[0].1, 208, .inl M))]) rfl rfl rfl ?_
  refine g_eq (st' := [.int (bB (rgB (nI x) (sv_nc s)))]) (by rw [inI_n1 _ hnc]) rfl rfl ?_
  refine g_if_neB (tgt := 22) O dX9_clampAt_15 (by decide) (fun c_3 => ?_) (fun c_3 => absurd c_3 (by rw [rgB_t hx (by omega)]; decide))
  refine g_iload_n O dX9_clampAt_22 2 rfl rfl ?_
  refine g_if_eqB (tgt := 42) O dX9_clampAt_23 (by decide) (fun c_4 => ?_) (fun c_4 => ?_)
  ·
    refine g_aload_n O dX9_clampAt_42 0 rfl rfl ?_
    refine g_get O hiX9_clampAt_X9 0 rfl rfl 4 (by decide) (by decide +kernel) rfl dX9_clampAt_43 ?_
    refine g_sipush (x := (nI 155)) O dX9_clampAt_46 (by decide +kernel) ?_
    refine g_iload_n O dX9_clampAt_49 1 rfl rfl ?_
    refine g_iaddN O dX9_clampAt_50 ?_
    refine g_ialdN O 1 rfl (by omega) (by omega) dX9_clampAt_51 ?_
    refine g_eq (st' := [.int (nI (12 * sv_cr s x + sv_cc s x))]) (by rw [RM_cl hM (show x < sv_nc s by omega)]) rfl rfl ?_
    refine g_bipush (x := (nI 12)) O dX9_clampAt_52 (by decide +kernel) ?_
    refine g_iremN O (by omega) (by omega) (by omega) dX9_clampAt_54 ?_
    exact E 55 _ (nI ((12 * sv_cr s x + sv_cc s x) % 12)) _ dX9_clampAt_55 (by subst_vars; refine ⟨?_, rfl⟩; congr 3; first | (show (12 * sv_cr s x + sv_cc s x) / 12 = sv_cr s x; omega) | (show (12 * sv_cr s x + sv_cc s x) % 12 = sv_cc s x; omega))
  ·
    refine g_aload_n O dX9_clampAt_26 0 rfl rfl ?_
    refine g_get O hiX9_clampAt_X9 0 rfl rfl 4 (by decide) (by decide +kernel) rfl dX9_clampAt_27 ?_
    refine g_sipush (x := (nI 155)) O dX9_clampAt_30 (by decide +kernel) ?_
    refine g_iload_n O dX9_clampAt_33 1 rfl rfl ?_
    refine g_iaddN O dX9_clampAt_34 ?_
    refine g_ialdN O 1 rfl (by omega) (by omega) dX9_clampAt_35 ?_
    refine g_eq (st' := [.int (nI (12 * sv_cr s x + sv_cc s x))]) (by rw [RM_cl hM (show x < sv_nc s by omega)]) rfl rfl ?_
    refine g_bipush (x := (nI 12)) O dX9_clampAt_36 (by decide +kernel) ?_
    refine g_idivN O (by omega) (by omega) (by omega) dX9_clampAt_38 ?_
    refine g_goto (tgt := 55) O dX9_clampAt_39 (by decide) ?_
    exact E 55 _ (nI ((12 * sv_cr s x + sv_cc s x) / 12)) _ dX9_clampAt_55 (by subst_vars; refine ⟨?_, rfl⟩; congr 3; first | (show (12 * sv_cr s x + sv_cc s x) / 12 = sv_cr s x; omega) | (show (12 * sv_cr s x + sv_cc s x) % 12 = sv_cc s x; omega))
