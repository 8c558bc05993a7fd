set_option maxHeartbeats 2000000 in
set_option maxRecDepth 100000 in
theorem kX9_place_b1 (l : Launch) (D : va_G) (z : Nat × Nat × Nat) (u0 : Nat) (u1 : Nat) (u2 : Nat) (u3 : Nat) (u4 : Nat) (u5 : Nat) (u6 : Nat) (u7 : Nat) (u8 : Nat) (u9 : Nat) (u10 : Nat) (u11 : Nat) (kn : Nat) (ik : Bool) (ty : Nat) (ta : Nat) (iw : Bool) (x : Int32) (y : Int32) (k : Int32) (hb : (rgB x 12 && rgB y 12) = false) : CM l yX9_place wsX9_place ({ frames := 2, cells := 0, slots := 0, locals := 44 } : Room) D z [.ref u0, .int x, .int y, .int k] [(u0, .inr (9, [.ref u1, .ref u2, .ref u3, .ref u4, .ref u5, .ref u6, .int (nI kn), .ref u7, .int (bB ik), .ref u8, .int (nI ty), .ref u9, .int (nI ta), .int (bB iw), .ref u10, .ref u11]))] (fun r_ w_ => r_ = some (.int (-1)) ∧ w_ = [(u0, .inr (9, [.ref u1, .ref u2, .ref u3, .ref u4, .ref u5, .ref u6, .int (nI kn), .ref u7, .int (bB ik), .ref u8, .int (nI ty), .ref u9, .int (nI ta), .int (bB iw), .ref u10, .ref u11]))]) 0 0 := by
  refine CM_int (own := RX9) (cc := cX9_place) (maxL := 5) (L0 := [(0, .ref u0), (1, .int x), (2, .int y), (3, .int k)]) (by decide) rfl rfl (Nat.le_of_ble_eq_true rfl) rfl (fun X O E => ?_)
  refine g_iload_n O dX9_place_0 1 rfl rfl ?_
  refine g_iload_n O dX9_place_1 2 rfl rfl ?_
  refine g_callS (As := [.int x, .int y]) (wr := [(u0, .inr (9, [.ref u1, .ref u2, .ref u3, .ref u4, .ref u5, .ref u6, .int (nI kn), .ref u7, .int (bB ik), .ref u8, .int (nI ty), .ref u9, .int (nI ta), .int (bB iw), .ref u10, .ref u11]))]) O (kX9_isOn l D z x y ) gX9_place_X9_isOn rfl rfl rfl 2 (by decide +kernel) (by decide) (by decide) [] [0] rfl (by decide) rfl (by decide) (by decide) rfl rfl (Nat.le_of_ble_eq_true rfl) dX9_place_2 (fun r_1 w_2 hp => ?_)
  obtain ⟨rfl, rfl⟩ := hp
  refine g_eq (st' := [.int (bB (rgB x 12 && rgB y 12))]) (ws' := [(u0, .inr (9, [.ref u1, .ref u2, .ref u3, .ref u4, .ref u5, .ref u6, .int (nI kn), .ref u7, .int (bB ik), .ref u8, .int (nI ty), .ref u9, .int (nI ta), .int (bB iw), .ref u10, .ref u11]))]) rfl rfl rfl ?_
  refine g_if_neB (tgt := 10) O dX9_place_5 (by decide) (fun c_3 => absurd c_3 (by rw [hb]; decide)) (fun c_3 => ?_)
  refine g_iconst (x := (-1)) O dX9_place_8 (by decide +kernel) ?_
  exact E 9 _ (-1) _ dX9_place_9 ⟨rfl, rfl⟩

set_option maxHeartbeats 2000000 in
set_option maxRecDepth 100000 in
theorem kX9_place_b2 (l : Launch) (D : va_G) (z : Nat × Nat × Nat) (u0 : Nat) (u1 : Nat) (u2 : Nat) (u3 : Nat) (u4 : Nat) (u5 : Nat) (u6 : Nat) (u7 : Nat) (u8 : Nat) (u9 : Nat) (u10 : Nat) (u11 : Nat) (kn : Nat) (ik : Bool) (ty : Nat) (ta : Nat) (iw : Bool) (x : Nat) (y : Nat) (k : Int32) (hx : x < 12) (hy : y < 12) (hsw : k < 0 ∨ nI 4 ≤ k) : CM l yX9_place wsX9_place ({ frames := 2, cells := 0, slots := 0, locals := 44 } : Room) D z [.ref u0, .int (nI x), .int (nI y), .int k] [(u0, .inr (9, [.ref u1, .ref u2, .ref u3, .ref u4, .ref u5, .ref u6, .int (nI kn), .ref u7, .int (bB ik), .ref u8, .int (nI ty), .ref u9, .int (nI ta), .int (bB iw), .ref u10, .ref u11]))] (fun r_ w_ => r_ = some (.int (-2)) ∧ w_ = [(u0, .inr (9, [.ref u1, .ref u2, .ref u3, .ref u4, .ref u5, .ref u6, .int (nI kn), .ref u7, .int (bB ik), .ref u8, .int (nI ty), .ref u9, .int (nI ta), .int (bB iw), .ref u10, .ref u11]))]) 0 0 := by
  refine CM_int (own := RX9) (cc := cX9_place) (maxL := 5) (L0 := [(0, .ref u0), (1, .int (nI x)), (2, .int (nI y)), (3, .int k)]) (by decide) rfl rfl (Nat.le_of_ble_eq_true rfl) rfl (fun X O E => ?_)
  refine g_iload_n O dX9_place_0 1 rfl rfl ?_
  refine g_iload_n O dX9_place_1 2 rfl rfl ?_
  refine g_callS (As := [.int (nI x), .int (nI y)]) (wr := [(u0, .inr (9, [.ref u1, .ref u2, .ref u3, .ref u4, .ref u5, .ref u6, .int (nI kn), .ref u7, .int (bB ik), .ref u8, .int (nI ty), .ref u9, .int (nI ta), .int (bB iw), .ref u10, .ref u11]))]) O (kX9_isOn l D z (nI x) (nI y) ) gX9_place_X9_isOn rfl rfl rfl 2 (by decide +kernel) (by decide) (by decide) [] [0] rfl (by decide) rfl (by decide) (by decide) rfl rfl (Nat.le_of_ble_eq_true rfl) dX9_place_2 (fun r_1 w_2 hp => ?_)
  obtain ⟨rfl, rfl⟩ := hp
  refine g_eq (st' := [.int (bB (rgB (nI x) 12 && rgB (nI y) 12))]) (ws' := [(u0, .inr (9, [.ref u1, .ref u2, .ref u3, .ref u4, .ref u5, .ref u6, .int (nI kn), .ref u7, .int (bB ik), .ref u8, .int (nI ty), .ref u9, .int (nI ta), .int (bB iw), .ref u10, .ref u11]))]) rfl rfl rfl ?_
  refine g_if_neB (tgt := 10) O dX9_place_5 (by decide) (fun c_3 => ?_) (fun c_3 => absurd c_3 (by rw [rgB_t hx (by decide), rgB_t hy (by decide)]; decide))
  refine g_bipush (x := (nI 12)) O dX9_place_10 (by decide +kernel) ?_
  refine g_iload_n O dX9_place_12 2 rfl rfl ?_
  refine g_imulN O dX9_place_13 ?_
  refine g_iload_n O dX9_place_14 1 rfl rfl ?_
  refine g_iaddN O dX9_place_15 ?_
  refine g_istore (L' := [(0, .ref u0), (1, .int (nI x)), (2, .int (nI y)), (3, .int k), (4, .int (nI ((12 * y) + x)))]) O dX9_place_16 (by decide) [1, 2, 3, 4, 0] rfl ?_
  refine g_iload_n O dX9_place_18 3 rfl rfl ?_
  refine g_tableO (tgt := 139) (N := 4) O dX9_place_19 hsw (by decide) (by decide) (by decide) ?_
  refine g_bipush (x := (-2)) O dX9_place_139 (by decide +kernel) ?_
  exact E 141 _ (-2) _ dX9_place_141 ⟨rfl, rfl⟩

theorem hiX9_place_X9 : ∀ w ∈ wsX90, w ∈ wsX9_place := by intro w h; simp only [wsX9_place, List.mem_append, List.mem_cons, h, or_true, true_or]
set_option maxHeartbeats 2000000 in
set_option maxRecDepth 100000 in
theorem kX9_place_0 (l : Launch) (D : va_G) (z : Nat × Nat × Nat) (u0 : Nat) (u1 : Nat) (u2 : Nat) (u3 : Nat) (u4 : Nat) (u5 : Nat) (u6 : Nat) (u7 : Nat) (u8 : Nat) (u9 : Nat) (u10 : Nat) (u11 : Nat) (kn : Nat) (ik : Bool) (ty : Nat) (ta : Nat) (iw : Bool) (M : Nat → Int32) (s : SV) (x : Nat) (y : Nat) (hx : x < 12) (hy : y < 12) (hM : RM M s) : CM l yX9_place wsX9_place ({ frames := 2, cells := 0, slots := 0, locals := 44 } : Room) D z [.ref u0, .int (nI x), .int (nI y), .int (nI 0)] [(u0, .inr (9, [.ref u1, .ref u2, .ref u3, .ref u4, .ref u5, .ref u6, .int (nI kn), .ref u7, .int (bB ik), .ref u8, .int (nI ty), .ref u9, .int (nI ta), .int (bB iw), .ref u10, .ref u11])), (u5, .inl (tyI D, 208, .inl M))] (fun r_ w_ => r_ = some (.int (nI (sv_g s (y * 12 + x)))) ∧ w_ = [(u0, .inr (9, [.ref u1, .ref u2, .ref u3, .ref u4, .ref u5, .ref u6, .int (nI kn), .ref u7, .int (bB ik), .ref u8, .int (nI ty), .ref u9, .int (nI ta), .int (bB iw), .ref u10, .ref u11])), (u5, .inl (tyI D, 208, .inl M))]) 0 0 := by
  refine CM_int (own := RX9) (cc := cX9_place) (maxL := 5) (L0 := [(0, .ref u0), (1, .int (nI x)), (2, .int (nI y)), (3, .int (nI 0))]) (by decide) rfl rfl (Nat.le_of_ble_eq_true rfl) rfl (fun X O E => ?_)
  refine g_iload_n O dX9_place_0 1 rfl rfl ?_
  refine g_iload_n O dX9_place_1 2 rfl rfl ?_
  refine g_callS (As := [.int (nI x), .int (nI y)]) (wr := [(u0, .inr (9, [.ref u1, .ref u2, .ref u3, .ref u4, .ref u5, .ref u6, .int (nI kn), .ref u7, .int (bB ik), .ref u8, .int (nI ty), .ref u9, .int (nI ta), .int (bB iw), .ref u10, .ref u11])), (u5, .inl (tyI D, 208, .inl M))]) O (kX9_isOn l D z (nI x) (nI y) ) gX9_place_X9_isOn rfl rfl rfl 2 (by decide +kernel) (by decide) (by decide) [] [0, 1] rfl (by decide) rfl (by decide) (by decide) rfl rfl (Nat.le_of_ble_eq_true rfl) dX9_place_2 (fun r_1 w_2 hp => ?_)
  obtain ⟨rfl, rfl⟩ := hp
  refine g_eq (st' := [.int (bB (rgB (nI x) 12 && rgB (nI y) 12))]) (ws' := [(u0, .inr (9, [.ref u1, .ref u2, .ref u3, .ref u4, .ref u5, .ref u6, .int (nI kn), .ref u7, .int (bB ik), .ref u8, .int (nI ty), .ref u9, .int (nI ta), .int (bB iw), .ref u10, .ref u11])), (u5, .inl (tyI D, 208, .inl M))]) rfl rfl rfl ?_
  refine g_if_neB (tgt := 10) O dX9_place_5 (by decide) (fun c_3 => ?_) (fun c_3 => absurd c_3 (by rw [rgB_t hx (by decide), rgB_t hy (by decide)]; decide))
  refine g_bipush (x := (nI 12)) O dX9_place_10 (by decide +kernel) ?_
  refine g_iload_n O dX9_place_12 2 rfl rfl ?_
  refine g_imulN O dX9_place_13 ?_
  refine g_iload_n O dX9_place_14 1 rfl rfl ?_
  refine g_iaddN O dX9_place_15 ?_
  refine g_istore (L' := [(0, .ref u0), (1, .int (nI x)), (2, .int (nI y)), (3, .int (nI 0)), (4, .int (nI ((12 * y) + x)))]) O dX9_place_16 (by decide) [1, 2, 3, 4, 0] rfl ?_
  refine g_iload_n O dX9_place_18 3 rfl rfl ?_
  refine g_tableIn (off := 29) (tgt := 48) O dX9_place_19 (by decide +kernel) (by decide +kernel) (by decide +kernel) (by decide) ?_
  refine g_aload_n O dX9_place_48 0 rfl rfl ?_
  refine g_get O hiX9_place_X9 0 rfl rfl 4 (by decide) (by decide +kernel) rfl dX9_place_49 ?_
  refine g_iconst (x := (nI 0)) O dX9_place_52 (by decide +kernel) ?_
  refine g_iload O dX9_place_53 4 rfl ?_
  refine g_iaddN O dX9_place_55 ?_
  refine g_ialdN O 1 rfl (by omega) (by omega) dX9_place_56 ?_
  refine g_eq (st' := [.int (nI (sv_g s (y * 12 + x)))]) (by rw [RM_gE hM (show 0 + ((12 * y) + x) = y * 12 + x by omega) (by omega)]) rfl rfl ?_
  exact E 57 _ (nI (sv_g s (y * 12 + x))) _ dX9_place_57 ⟨rfl, rfl⟩

set_option maxHeartbeats 2000000 in
set_option maxRecDepth 100000 in
theorem kX9_place_1 (l : Launch) (D : va_G) (z : Nat × Nat × Nat) (u0 : Nat) (u1 : Nat) (u2 : Nat) (u3 : Nat) (u4 : Nat) (u5 : Nat) (u6 : Nat) (u7 : Nat) (u8 : Nat) (u9 : Nat) (u10 : Nat) (u11 : Nat) (kn : Nat) (ik : Bool) (ty : Nat) (ta : Nat) (iw : Bool) (M : Nat → Int32) (s : SV) (x : Nat) (y : Nat) (hx : x < 12) (hy : y < 12) (hM : RM M s) (hla : sv_la s = -1 ∨ ∃ w, w < 48 ∧ sv_la s = nI w) : CM l yX9_place wsX9_place ({ frames := 2, cells := 0, slots := 0, locals := 44 } : Room) D z [.ref u0, .int (nI x), .int (nI y), .int (nI 1)] [(u0, .inr (9, [.ref u1, .ref u2, .ref u3, .ref u4, .ref u5, .ref u6, .int (nI kn), .ref u7, .int (bB ik), .ref u8, .int (nI ty), .ref u9, .int (nI ta), .int (bB iw), .ref u10, .ref u11])), (u4, .inl (tyI D, 6912, .inl SWT)), (u5, .inl (tyI D, 208, .inl M))] (fun r_ w_ => r_ = some (.int (laF (sv_la s) (fun w => SW w (12 * y + x)))) ∧ w_ = [(u0, .inr (9, [.ref u1, .ref u2, .ref u3, .ref u4, .ref u5, .ref u6, .int (nI kn), .ref u7, .int (bB ik), .ref u8, .int (nI ty), .ref u9, .int (nI ta), .int (bB iw), .ref u10, .ref u11])), (u4, .inl (tyI D, 6912, .inl SWT)), (u5, .inl (tyI D, 208, .inl M))]) 0 0 := by
  refine CM_int (own := RX9) (cc := cX9_place) (maxL := 5) (L0 := [(0, .ref u0), (1, .int (nI x)), (2, .int (nI y)), (3, .int (nI 1))]) (by decide) rfl rfl (Nat.le_of_ble_eq_true rfl) rfl (fun X O E => ?_)
  refine g_iload_n O dX9_place_0 1 rfl rfl ?_
  refine g_iload_n O dX9_place_1 2 rfl rfl ?_
  refine g_callS (As := [.int (nI x), .int (nI y)]) (wr := [(u0, .inr (9, [.ref u1, .ref u2, .ref u3, .ref u4, .ref u5, .ref u6, .int (nI kn), .ref u7, .int (bB ik), .ref u8, .int (nI ty), .ref u9, .int (nI ta), .int (bB iw), .ref u10, .ref u11])), (u4, .inl (tyI D, 6912, .inl SWT)), (u5, .inl (tyI D, 208, .inl M))]) O (kX9_isOn l D z (nI x) (nI y) ) gX9_place_X9_isOn rfl rfl rfl 2 (by decide +kernel) (by decide) (by decide) [] [0, 1, 2] rfl (by decide) rfl (by decide) (by decide) rfl rfl (Nat.le_of_ble_eq_true rfl) dX9_place_2 (fun r_1 w_2 hp => ?_)
  obtain ⟨rfl, rfl⟩ := hp
  refine g_eq (st' := [.int (bB (rgB (nI x) 12 && rgB (nI y) 12))]) (ws' := [(u0, .inr (9, [.ref u1, .ref u2, .ref u3, .ref u4, .ref u5, .ref u6, .int (nI kn), .ref u7, .int (bB ik), .ref u8, .int (nI ty), .ref u9, .int (nI ta), .int (bB iw), .ref u10, .ref u11])), (u4, .inl (tyI D, 6912, .inl SWT)), (u5, .inl (tyI D, 208, .inl M))]) rfl rfl rfl ?_
  refine g_if_neB (tgt := 10) O dX9_place_5 (by decide) (fun c_3 => ?_) (fun c_3 => absurd c_3 (by rw [rgB_t hx (by decide), rgB_t hy (by decide)]; decide))
  refine g_bipush (x := (nI 12)) O dX9_place_10 (by decide +kernel) ?_
  refine g_iload_n O dX9_place_12 2 rfl rfl ?_
  refine g_imulN O dX9_place_13 ?_
  refine g_iload_n O dX9_place_14 1 rfl rfl ?_
  refine g_iaddN O dX9_place_15 ?_
  refine g_istore (L' := [(0, .ref u0), (1, .int (nI x)), (2, .int (nI y)), (3, .int (nI 1)), (4, .int (nI ((12 * y) + x)))]) O dX9_place_16 (by decide) [1, 2, 3, 4, 0] rfl ?_
  refine g_iload_n O dX9_place_18 3 rfl rfl ?_
  refine g_tableIn (off := 39) (tgt := 58) O dX9_place_19 (by decide +kernel) (by decide +kernel) (by decide +kernel) (by decide) ?_
  rcases hla with hla | ⟨w, hw48, hla⟩
  ·
    refine g_aload_n O dX9_place_58 0 rfl rfl ?_
    refine g_get O hiX9_place_X9 0 rfl rfl 4 (by decide) (by decide +kernel) rfl dX9_place_59 ?_
    refine g_sipush (x := (nI 153)) O dX9_place_62 (by decide +kernel) ?_
    refine g_ialdN O 2 rfl (by omega) (by omega) dX9_place_65 ?_
    refine g_eq (st' := [.int (-5)]) (by rw [RM_la hM, hla, laM_m1]) rfl rfl ?_
    refine g_bipush (x := (-5)) O dX9_place_66 (by decide +kernel) ?_
    refine g_icmp_ne (tgt := 76) O dX9_place_68 (by decide) (fun c_4 => absurd c_4 (fun h => h rfl)) (fun c_4 => ?_)
    refine g_bipush (x := (-5)) O dX9_place_71 (by decide +kernel) ?_
    refine g_goto (tgt := 90) O dX9_place_73 (by decide) ?_
    exact E 90 _ (-5) _ dX9_place_90 (by rw [hla]; first | exact ⟨rfl, rfl⟩ | (rw [laF_n hw48]; exact ⟨rfl, rfl⟩))
  ·
    refine g_aload_n O dX9_place_58 0 rfl rfl ?_
    refine g_get O hiX9_place_X9 0 rfl rfl 4 (by decide) (by decide +kernel) rfl dX9_place_59 ?_
    refine g_sipush (x := (nI 153)) O dX9_place_62 (by decide +kernel) ?_
    refine g_ialdN O 2 rfl (by omega) (by omega) dX9_place_65 ?_
    refine g_eq (st' := [.int (nI w)]) (by rw [RM_la hM, hla, laM_n hw48]) rfl rfl ?_
    refine g_bipush (x := (-5)) O dX9_place_66 (by decide +kernel) ?_
    refine g_icmp_ne (tgt := 76) O dX9_place_68 (by decide) (fun c_5 => ?_) (fun c_5 => absurd c_5 (fun e => by have h2 := (nI_toInt (n := w) (by omega)).symm.trans (congrArg Int32.toInt e); have h3 : (-5 : Int32).toInt = -5 := (by decide +kernel); rw [h3] at h2; omega))
    refine g_aload_n O dX9_place_76 0 rfl rfl ?_
    refine g_aload_n O dX9_place_77 0 rfl rfl ?_
    refine g_get O hiX9_place_X9 0 rfl rfl 4 (by decide) (by decide +kernel) rfl dX9_place_78 ?_
    refine g_sipush (x := (nI 153)) O dX9_place_81 (by decide +kernel) ?_
    refine g_ialdN O 2 rfl (by omega) (by omega) dX9_place_84 ?_
    refine g_eq (st' := [.int (nI w), .ref u0]) (by rw [RM_la hM, hla, laM_n hw48]) rfl rfl ?_
    refine g_iload O dX9_place_85 4 rfl ?_
    refine g_callV (As := [.int (nI w), .int (nI ((12 * y) + x))]) (wr := [(u5, .inl (tyI D, 208, .inl M))]) O (kX9_swingAt l D z u0 u1 u2 u3 u4 u5 u6 u7 u8 u9 u10 u11 kn ik ty ta iw w ((12 * y) + x) (by first | assumption | omega) (by first | assumption | omega)) gX9_place_X9_swingAt rfl rfl rfl 2 (by decide +kernel) (by decide) (by decide) (q0 := 0) rfl rfl rfl [0, 1] [2] rfl (by decide) rfl (by decide) (by decide) rfl rfl (Nat.le_of_ble_eq_true rfl) dX9_place_87 (fun r_6 w_7 hp => ?_)
    obtain ⟨rfl, rfl⟩ := hp
    refine g_eq (st' := [.int (SW w ((12 * y) + x))]) (ws' := [(u5, .inl (tyI D, 208, .inl M)), (u0, .inr (9, [.ref u1, .ref u2, .ref u3, .ref u4, .ref u5, .ref u6, .int (nI kn), .ref u7, .int (bB ik), .ref u8, .int (nI ty), .ref u9, .int (nI ta), .int (bB iw), .ref u10, .ref u11])), (u4, .inl (tyI D, 6912, .inl SWT))]) rfl rfl rfl ?_
    refine g_perm (ws' := [(u0, .inr (9, [.ref u1, .ref u2, .ref u3, .ref u4, .ref u5, .ref u6, .int (nI kn), .ref u7, .int (bB ik), .ref u8, .int (nI ty), .ref u9, .int (nI ta), .int (bB iw), .ref u10, .ref u11])), (u4, .inl (tyI D, 6912, .inl SWT)), (u5, .inl (tyI D, 208, .inl M))]) [1, 2, 0] rfl (by decide) ?_
    exact E 90 _ (SW w ((12 * y) + x)) _ dX9_place_90 (by rw [hla]; first | exact ⟨rfl, rfl⟩ | (rw [laF_n hw48]; exact ⟨rfl, rfl⟩))

set_option maxHeartbeats 2000000 in
set_option maxRecDepth 100000 in
theorem kX9_place_2 (l : Launch) (D : va_G) (z : Nat × Nat × Nat) (u0 : Nat) (u1 : Nat) (u2 : Nat) (u3 : Nat) (u4 : Nat) (u5 : Nat) (u6 : Nat) (u7 : Nat) (u8 : Nat) (u9 : Nat) (u10 : Nat) (u11 : Nat) (kn : Nat) (ik : Bool) (ty : Nat) (ta : Nat) (iw : Bool) (M : Nat → Int32) (s : SV) (x : Nat) (y : Nat) (hx : x < 12) (hy : y < 12) (hM : RM M s) (hla : sv_la s = -1 ∨ ∃ w, w < 48 ∧ sv_la s = nI w) : CM l yX9_place wsX9_place ({ frames := 2, cells := 0, slots := 0, locals := 44 } : Room) D z [.ref u0, .int (nI x), .int (nI y), .int (nI 2)] [(u0, .inr (9, [.ref u1, .ref u2, .ref u3, .ref u4, .ref u5, .ref u6, .int (nI kn), .ref u7, .int (bB ik), .ref u8, .int (nI ty), .ref u9, .int (nI ta), .int (bB iw), .ref u10, .ref u11])), (u4, .inl (tyI D, 6912, .inl SWT)), (u5, .inl (tyI D, 208, .inl M))] (fun r_ w_ => r_ = some (.int (laF (sv_la s) (fun w => bB (stB s w (12 * y + x))))) ∧ w_ = [(u0, .inr (9, [.ref u1, .ref u2, .ref u3, .ref u4, .ref u5, .ref u6, .int (nI kn), .ref u7, .int (bB ik), .ref u8, .int (nI ty), .ref u9, .int (nI ta), .int (bB iw), .ref u10, .ref u11])), (u4, .inl (tyI D, 6912, .inl SWT)), (u5, .inl (tyI D, 208, .inl M))]) 0 0 := by
  refine CM_int (own := RX9) (cc := cX9_place) (maxL := 5) (L0 := [(0, .ref u0), (1, .int (nI x)), (2, .int (nI y)), (3, .int (nI 2))]) (by decide) rfl rfl (Nat.le_of_ble_eq_true rfl) rfl (fun X O E => ?_)
  refine g_iload_n O dX9_place_0 1 rfl rfl ?_
  refine g_iload_n O dX9_place_1 2 rfl rfl ?_
  refine g_callS (As := [.int (nI x), .int (nI y)]) (wr := [(u0, .inr (9, [.ref u1, .ref u2, .ref u3, .ref u4, .ref u5, .ref u6, .int (nI kn), .ref u7, .int (bB ik), .ref u8, .int (nI ty), .ref u9, .int (nI ta), .int (bB iw), .ref u10, .ref u11])), (u4, .inl (tyI D, 6912, .inl SWT)), (u5, .inl (tyI D, 208, .inl M))]) O (kX9_isOn l D z (nI x) (nI y) ) gX9_place_X9_isOn rfl rfl rfl 2 (by decide +kernel) (by decide) (by decide) [] [0, 1, 2] rfl (by decide) rfl (by decide) (by decide) rfl rfl (Nat.le_of_ble_eq_true rfl) dX9_place_2 (fun r_1 w_2 hp => ?_)
  obtain ⟨rfl, rfl⟩ := hp
  refine g_eq (st' := [.int (bB (rgB (nI x) 12 && rgB (nI y) 12))]) (ws' := [(u0, .inr (9, [.ref u1, .ref u2, .ref u3, .ref u4, .ref u5, .ref u6, .int (nI kn), .ref u7, .int (bB ik), .ref u8, .int (nI ty), .ref u9, .int (nI ta), .int (bB iw), .ref u10, .ref u11])), (u4, .inl (tyI D, 6912, .inl SWT)), (u5, .inl (tyI D, 208, .inl M))]) rfl rfl rfl ?_
  refine g_if_neB (tgt := 10) O dX9_place_5 (by decide) (fun c_3 => ?_) (fun c_3 => absurd c_3 (by rw [rgB_t hx (by decide), rgB_t hy (by decide)]; decide))
  refine g_bipush (x := (nI 12)) O dX9_place_10 (by decide +kernel) ?_
  refine g_iload_n O dX9_place_12 2 rfl rfl ?_
  refine g_imulN O dX9_place_13 ?_
  refine g_iload_n O dX9_place_14 1 rfl rfl ?_
  refine g_iaddN O dX9_place_15 ?_
  refine g_istore (L' := [(0, .ref u0), (1, .int (nI x)), (2, .int (nI y)), (3, .int (nI 2)), (4, .int (nI ((12 * y) + x)))]) O dX9_place_16 (by decide) [1, 2, 3, 4, 0] rfl ?_
  refine g_iload_n O dX9_place_18 3 rfl rfl ?_
  refine g_tableIn (off := 72) (tgt := 91) O dX9_place_19 (by decide +kernel) (by decide +kernel) (by decide +kernel) (by decide) ?_
  rcases hla with hla | ⟨w, hw48, hla⟩
  ·
    refine g_aload_n O dX9_place_91 0 rfl rfl ?_
    refine g_get O hiX9_place_X9 0 rfl rfl 4 (by decide) (by decide +kernel) rfl dX9_place_92 ?_
    refine g_sipush (x := (nI 153)) O dX9_place_95 (by decide +kernel) ?_
    refine g_ialdN O 2 rfl (by omega) (by omega) dX9_place_98 ?_
    refine g_eq (st' := [.int (-5)]) (by rw [RM_la hM, hla, laM_m1]) rfl rfl ?_
    refine g_bipush (x := (-5)) O dX9_place_99 (by decide +kernel) ?_
    refine g_icmp_ne (tgt := 109) O dX9_place_101 (by decide) (fun c_4 => absurd c_4 (fun h => h rfl)) (fun c_4 => ?_)
    refine g_bipush (x := (-5)) O dX9_place_104 (by decide +kernel) ?_
    refine g_goto (tgt := 131) O dX9_place_106 (by decide) ?_
    exact E 131 _ (-5) _ dX9_place_131 (by rw [hla]; first | exact ⟨rfl, rfl⟩ | (rw [laF_n hw48, h123]; exact ⟨rfl, rfl⟩))
  ·
    refine g_aload_n O dX9_place_91 0 rfl rfl ?_
    refine g_get O hiX9_place_X9 0 rfl rfl 4 (by decide) (by decide +kernel) rfl dX9_place_92 ?_
    refine g_sipush (x := (nI 153)) O dX9_place_95 (by decide +kernel) ?_
    refine g_ialdN O 2 rfl (by omega) (by omega) dX9_place_98 ?_
    refine g_eq (st' := [.int (nI w)]) (by rw [RM_la hM, hla, laM_n hw48]) rfl rfl ?_
    refine g_bipush (x := (-5)) O dX9_place_99 (by decide +kernel) ?_
    refine g_icmp_ne (tgt := 109) O dX9_place_101 (by decide) (fun c_5 => ?_) (fun c_5 => absurd c_5 (fun e => by have h2 := (nI_toInt (n := w) (by omega)).symm.trans (congrArg Int32.toInt e); have h3 : (-5 : Int32).toInt = -5 := (by decide +kernel); rw [h3] at h2; omega))
    refine g_aload_n O dX9_place_109 0 rfl rfl ?_
    refine g_aload_n O dX9_place_110 0 rfl rfl ?_
    refine g_get O hiX9_place_X9 0 rfl rfl 4 (by decide) (by decide +kernel) rfl dX9_place_111 ?_
    refine g_sipush (x := (nI 153)) O dX9_place_114 (by decide +kernel) ?_
    refine g_ialdN O 2 rfl (by omega) (by omega) dX9_place_117 ?_
    refine g_eq (st' := [.int (nI w), .ref u0]) (by rw [RM_la hM, hla, laM_n hw48]) rfl rfl ?_
    refine g_iload O dX9_place_118 4 rfl ?_
    refine g_callV (As := [.int (nI w), .int (nI ((12 * y) + x))]) (wr := []) O (kX9_isStill l D z u0 u1 u2 u3 u4 u5 u6 u7 u8 u9 u10 u11 kn ik ty ta iw M s w ((12 * y) + x) (by first | assumption | omega) (by first | assumption | omega) (by first | assumption | omega)) gX9_place_X9_isStill rfl rfl rfl 2 (by decide +kernel) (by decide) (by decide) (q0 := 0) rfl rfl rfl [0, 1, 2] [] rfl (by decide) rfl (by decide) (by decide) rfl rfl (Nat.le_of_ble_eq_true rfl) dX9_place_120 (fun r_6 w_7 hp => ?_)
    obtain ⟨rfl, rfl⟩ := hp
    refine g_eq (st' := [.int (bB (stB s w ((12 * y) + x)))]) (ws' := [(u0, .inr (9, [.ref u1, .ref u2, .ref u3, .ref u4, .ref u5, .ref u6, .int (nI kn), .ref u7, .int (bB ik), .ref u8, .int (nI ty), .ref u9, .int (nI ta), .int (bB iw), .ref u10, .ref u11])), (u4, .inl (tyI D, 6912, .inl SWT)), (u5, .inl (tyI D, 208, .inl M))]) rfl rfl rfl ?_
    refine g_if_eqB (tgt := 130) O dX9_place_123 (by decide) (fun c_8 => ?_) (fun c_8 => ?_)
    ·
      have h123 := c_8
      refine g_iconst (x := (nI 0)) O dX9_place_130 (by decide +kernel) ?_
      exact E 131 _ (nI 0) _ dX9_place_131 (by rw [hla]; first | exact ⟨rfl, rfl⟩ | (rw [laF_n hw48, h123]; exact ⟨rfl, rfl⟩))
    ·
      have h123 := c_8
      refine g_iconst (x := (nI 1)) O dX9_place_126 (by decide +kernel) ?_
      refine g_goto (tgt := 131) O dX9_place_127 (by decide) ?_
      exact E 131 _ (nI 1) _ dX9_place_131 (by rw [hla]; first | exact ⟨rfl, rfl⟩ | (rw [laF_n hw48, h123]; exact ⟨rfl, rfl⟩))

set_option maxHeartbeats 2000000 in
set_option maxRecDepth 100000 in
theorem kX9_place_3 (l : Launch) (D : va_G) (z : Nat × Nat × Nat) (u0 : Nat) (u1 : Nat) (u2 : Nat) (u3 : Nat) (u4 : Nat) (u5 : Nat) (u6 : Nat) (u7 : Nat) (u8 : Nat) (u9 : Nat) (u10 : Nat) (u11 : Nat) (kn : Nat) (ik : Bool) (ty : Nat) (ta : Nat) (iw : Bool) (M : Nat → Int32) (s : SV) (x : Nat) (y : Nat) (hx : x < 12) (hy : y < 12) (hM : RM M s) (hnc : sv_nc s ≤ 4) (hcc : ∀ j, j < sv_nc s → sv_cc s j < 12 ∧ sv_cr s j < 12) : CM l yX9_place wsX9_place ({ frames := 2, cells := 0, slots := 0, locals := 44 } : Room) D z [.ref u0, .int (nI x), .int (nI y), .int (nI 3)] [(u0, .inr (9, [.ref u1, .ref u2, .ref u3, .ref u4, .ref u5, .ref u6, .int (nI kn), .ref u7, .int (bB ik), .ref u8, .int (nI ty), .ref u9, .int (nI ta), .int (bB iw), .ref u10, .ref u11])), (u5, .inl (tyI D, 208, .inl M))] (fun r_ w_ => r_ = some (.int (orN (fdB (fun j => decide (12 * sv_cr s j + sv_cc s j = 12 * y + x)) (sv_nc s)))) ∧ w_ = [(u0, .inr (9, [.ref u1, .ref u2, .ref u3, .ref u4, .ref u5, .ref u6, .int (nI kn), .ref u7, .int (bB ik), .ref u8, .int (nI ty), .ref u9, .int (nI ta), .int (bB iw), .ref u10, .ref u11])), (u5, .inl (tyI D, 208, .inl M))]) 0 0 := by
  refine CM_int (own := RX9) (cc := cX9_place) (maxL := 5) (L0 := [(0, .ref u0), (1, .int (nI x)), (2, .int (nI y)), (3, .int (nI 3))]) (by decide) rfl rfl (Nat.le_of_ble_eq_true rfl) rfl (fun X O E => ?_)
  refine g_iload_n O dX9_place_0 1 rfl rfl ?_
  refine g_iload_n O dX9_place_1 2 rfl rfl ?_
  refine g_callS (As := [.int (nI x), .int (nI y)]) (wr := [(u0, .inr (9, [.ref u1, .ref u2, .ref u3, .ref u4, .ref u5, .ref u6, .int (nI kn), .ref u7, .int (bB ik), .ref u8, .int (nI ty), .ref u9, .int (nI ta), .int (bB iw), .ref u10, .ref u11])), (u5, .inl (tyI D, 208, .inl M))]) O (kX9_isOn l D z (nI x) (nI y) ) gX9_place_X9_isOn rfl rfl rfl 2 (by decide +kernel) (by decide) (by decide) [] [0, 1] rfl (by decide) rfl (by decide) (by decide) rfl rfl (Nat.le_of_ble_eq_true rfl) dX9_place_2 (fun r_1 w_2 hp => ?_)
  obtain ⟨rfl, rfl⟩ := hp
  refine g_eq (st' := [.int (bB (rgB (nI x) 12 && rgB (nI y) 12))]) (ws' := [(u0, .inr (9, [.ref u1, .ref u2, .ref u3, .ref u4, .ref u5, .ref u6, .int (nI kn), .ref u7, .int (bB ik), .ref u8, .int (nI ty), .ref u9, .int (nI ta), .int (bB iw), .ref u10, .ref u11])), (u5, .inl (tyI D, 208, .inl M))]) rfl rfl rfl ?_
  refine g_if_neB (tgt := 10) O dX9_place_5 (by decide) (fun c_3 => ?_) (fun c_3 => absurd c_3 (by rw [rgB_t hx (by decide), rgB_t hy (by decide)]; decide))
  refine g_bipush (x := (nI 12)) O dX9_place_10 (by decide +kernel) ?_
  refine g_iload_n O dX9_place_12 2 rfl rfl ?_
  refine g_imulN O dX9_place_13 ?_
  refine g_iload_n O dX9_place_14 1 rfl rfl ?_
  refine g_iaddN O dX9_place_15 ?_
  refine g_istore (L' := [(0, .ref u0), (1, .int (nI x)), (2, .int (nI y)), (3, .int (nI 3)), (4, .int (nI ((12 * y) + x)))]) O dX9_place_16 (by decide) [1, 2, 3, 4, 0] rfl ?_
  refine g_iload_n O dX9_place_18 3 rfl rfl ?_
  refine g_tableIn (off := 113) (tgt := 132) O dX9_place_19 (by decide +kernel) (by decide +kernel) (by decide +kernel) (by decide) ?_
  refine g_aload_n O dX9_place_132 0 rfl rfl ?_
  refine g_iload O dX9_place_133 4 rfl ?_
  refine g_callV (As := [.int (nI ((12 * y) + x))]) (wr := []) O (kX9_clampOn l D z u0 u1 u2 u3 u4 u5 u6 u7 u8 u9 u10 u11 kn ik ty ta iw M s ((12 * y) + x) (by first | assumption | omega) (by first | assumption | omega) (by first | assumption | omega) (by first | assumption | omega)) gX9_place_X9_clampOn rfl rfl rfl 1 (by decide +kernel) (by decide) (by decide) (q0 := 0) rfl rfl rfl [0, 1] [] rfl (by decide) rfl (by decide) (by decide) rfl rfl (Nat.le_of_ble_eq_true rfl) dX9_place_135 (fun r_4 w_5 hp => ?_)
  obtain ⟨rfl, rfl⟩ := hp
  refine g_eq (st' := [.int (orN (fdB (fun j => decide (12 * sv_cr s j + sv_cc s j = ((12 * y) + x))) (sv_nc s)))]) (ws' := [(u0, .inr (9, [.ref u1, .ref u2, .ref u3, .ref u4, .ref u5, .ref u6, .int (nI kn), .ref u7, .int (bB ik), .ref u8, .int (nI ty), .ref u9, .int (nI ta), .int (bB iw), .ref u10, .ref u11])), (u5, .inl (tyI D, 208, .inl M))]) rfl rfl rfl ?_
  exact E 138 _ (orN (fdB (fun j => decide (12 * sv_cr s j + sv_cc s j = ((12 * y) + x))) (sv_nc s))) _ dX9_place_138 ⟨rfl, rfl⟩
