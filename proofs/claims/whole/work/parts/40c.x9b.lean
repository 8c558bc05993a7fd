theorem hiX9_set_X9 : ∀ w ∈ wsX90, w ∈ wsX9_set := by intro w h; simp only [wsX9_set, List.mem_append, List.mem_cons, h, or_true, true_or]
set_option maxHeartbeats 2000000 in
set_option maxRecDepth 100000 in
theorem kX9_set_b3 (l : Launch) (D : va_G) (z : Nat × Nat × Nat) (u0 : Nat) (u1 : Nat) (u2 : Nat) (u3 : Nat) (u4 : Nat) (u5 : Nat) (u6 : Nat) (u7 : Nat) (u8 : Nat) (u9 : Nat) (u10 : Nat) (u11 : Nat) (kn : Nat) (ik : Bool) (ty : Nat) (ta : Nat) (iw : Bool) (M : Nat → Int32) (s : SV) (w : Nat) (x : Int32) (hM : RM M s) (hw : w < 4) (hv1 : ¬ x < zL w) (hv2 : x ≤ zM w) (hb : x = sv_se s w) : CM l yX9_set wsX9_set ({ frames := 1, cells := 0, slots := 0, locals := 22 } : Room) D z [.ref u0, .int (nI w), .int x] [(u0, .inr (9, [.ref u1, .ref u2, .ref u3, .ref u4, .ref u5, .ref u6, .int (nI kn), .ref u7, .int (bB ik), .ref u8, .int (nI ty), .ref u9, .int (nI ta), .int (bB iw), .ref u10, .ref u11])), (u5, .inl (tyI D, 208, .inl M))] (fun r_ w_ => r_ = some (.int (-5)) ∧ w_ = [(u0, .inr (9, [.ref u1, .ref u2, .ref u3, .ref u4, .ref u5, .ref u6, .int (nI kn), .ref u7, .int (bB ik), .ref u8, .int (nI ty), .ref u9, .int (nI ta), .int (bB iw), .ref u10, .ref u11])), (u5, .inl (tyI D, 208, .inl M))]) 0 0 := by
  refine CM_int (own := RX9) (cc := cX9_set) (maxL := 6) (L0 := [(0, .ref u0), (1, .int (nI w)), (2, .int x)]) (by decide) rfl rfl (Nat.le_of_ble_eq_true rfl) rfl (fun X O E => ?_)
  rcases (show w = 0 ∨ w = 1 ∨ w = 2 ∨ w = 3 by omega) with rfl | rfl | rfl | rfl
  ·
    refine g_iload_n O dX9_set_0 1 rfl rfl ?_
    refine g_iconst (x := (nI 1)) O dX9_set_1 (by decide +kernel) ?_
    refine g_icmp_neN (tgt := 9) O (by omega) (by omega) dX9_set_2 (by decide) (fun c_1 => ?_) (fun c_1 => absurd c_1 (by decide))
    refine g_iload_n O dX9_set_9 1 rfl rfl ?_
    refine g_iconst (x := (nI 3)) O dX9_set_10 (by decide +kernel) ?_
    refine g_icmp_neN (tgt := 19) O (by omega) (by omega) dX9_set_11 (by decide) (fun c_2 => ?_) (fun c_2 => absurd c_2 (by decide))
    refine g_iconst (x := (nI 0)) O dX9_set_19 (by decide +kernel) ?_
    refine g_istore_n (L' := [(0, .ref u0), (1, .int (nI 0)), (2, .int x), (3, .int (nI 0))]) O dX9_set_20 rfl (by decide) [1, 2, 3, 0] rfl ?_
    refine g_iload_n O dX9_set_21 1 rfl rfl ?_
    refine g_iconst (x := (nI 1)) O dX9_set_22 (by decide +kernel) ?_
    refine g_icmp_neN (tgt := 32) O (by omega) (by omega) dX9_set_23 (by decide) (fun c_3 => ?_) (fun c_3 => absurd c_3 (by decide))
    refine g_iload_n O dX9_set_32 1 rfl rfl ?_
    refine g_iconst (x := (nI 3)) O dX9_set_33 (by decide +kernel) ?_
    refine g_icmp_neN (tgt := 43) O (by omega) (by omega) dX9_set_34 (by decide) (fun c_4 => ?_) (fun c_4 => absurd c_4 (by decide))
    refine g_bipush (x := (nI 60)) O dX9_set_43 (by decide +kernel) ?_
    refine g_istore (L' := [(0, .ref u0), (1, .int (nI 0)), (2, .int x), (3, .int (nI 0)), (4, .int (nI 60))]) O dX9_set_45 (by decide) [1, 2, 3, 4, 0] rfl ?_
    refine g_iload_n O dX9_set_47 1 rfl rfl ?_
    refine g_iconst (x := (nI 0)) O dX9_set_48 (by decide +kernel) ?_
    refine g_iconst (x := (nI 3)) O dX9_set_49 (by decide +kernel) ?_
    refine g_callS (As := [.int (nI 0), .int (nI 0), .int (nI 3)]) (wr := [(u0, .inr (9, [.ref u1, .ref u2, .ref u3, .ref u4, .ref u5, .ref u6, .int (nI kn), .ref u7, .int (bB ik), .ref u8, .int (nI ty), .ref u9, .int (nI ta), .int (bB iw), .ref u10, .ref u11])), (u5, .inl (tyI D, 208, .inl M))]) O (kX9_in l D z (nI 0) (nI 0) (nI 3) ) gX9_set_X9_in rfl rfl rfl 3 (by decide +kernel) (by decide) (by decide) [] [0, 1] rfl (by decide) rfl (by decide) (by decide) rfl rfl (Nat.le_of_ble_eq_true rfl) dX9_set_50 (fun r_5 w_6 hp => ?_)
    obtain ⟨rfl, rfl⟩ := hp
    refine g_eq (st' := [.int (bB (inI (nI 0) (nI 0) (nI 3)))]) (ws' := [(u0, .inr (9, [.ref u1, .ref u2, .ref u3, .ref u4, .ref u5, .ref u6, .int (nI kn), .ref u7, .int (bB ik), .ref u8, .int (nI ty), .ref u9, .int (nI ta), .int (bB iw), .ref u10, .ref u11])), (u5, .inl (tyI D, 208, .inl M))]) rfl rfl rfl ?_
    refine g_eq (st' := [.int (bB (rgB (nI 0) 4))]) (by rw [inI_r _ (by decide)]) rfl rfl ?_
    refine g_if_eqB (tgt := 66) O dX9_set_53 (by decide) (fun c_7 => absurd c_7 (by decide)) (fun c_7 => ?_)
    refine g_iload_n O dX9_set_56 2 rfl rfl ?_
    refine g_iload_n O dX9_set_57 3 rfl rfl ?_
    refine g_iload O dX9_set_58 4 rfl ?_
    refine g_callS (As := [.int x, .int (nI 0), .int (nI 60)]) (wr := [(u0, .inr (9, [.ref u1, .ref u2, .ref u3, .ref u4, .ref u5, .ref u6, .int (nI kn), .ref u7, .int (bB ik), .ref u8, .int (nI ty), .ref u9, .int (nI ta), .int (bB iw), .ref u10, .ref u11])), (u5, .inl (tyI D, 208, .inl M))]) O (kX9_in l D z x (nI 0) (nI 60) ) gX9_set_X9_in rfl rfl rfl 3 (by decide +kernel) (by decide) (by decide) [] [0, 1] rfl (by decide) rfl (by decide) (by decide) rfl rfl (Nat.le_of_ble_eq_true rfl) dX9_set_60 (fun r_8 w_9 hp => ?_)
    obtain ⟨rfl, rfl⟩ := hp
    refine g_eq (st' := [.int (bB (inI x (nI 0) (nI 60)))]) (ws' := [(u0, .inr (9, [.ref u1, .ref u2, .ref u3, .ref u4, .ref u5, .ref u6, .int (nI kn), .ref u7, .int (bB ik), .ref u8, .int (nI ty), .ref u9, .int (nI ta), .int (bB iw), .ref u10, .ref u11])), (u5, .inl (tyI D, 208, .inl M))]) rfl rfl rfl ?_
    refine g_if_neB (tgt := 69) O dX9_set_63 (by decide) (fun c_10 => ?_) (fun c_10 => absurd c_10 (by intro h; have h2 := inI_t (Int32.not_lt.mp hv1) hv2; exact absurd (h2.symm.trans h) (by decide)))
    refine g_aload_n O dX9_set_69 0 rfl rfl ?_
    refine g_get O hiX9_set_X9 0 rfl rfl 4 (by decide) (by decide +kernel) rfl dX9_set_70 ?_
    refine g_sipush (x := (nI 144)) O dX9_set_73 (by decide +kernel) ?_
    refine g_iload_n O dX9_set_76 1 rfl rfl ?_
    refine g_iaddN O dX9_set_77 ?_
    refine g_ialdN O 1 rfl (by omega) (by omega) dX9_set_78 ?_
    refine g_eq (st' := [.int (sv_se s 0)]) (by rw [RM_se hM (show 0 < 4 by omega)]) rfl rfl ?_
    refine g_istore (L' := [(0, .ref u0), (1, .int (nI 0)), (2, .int x), (3, .int (nI 0)), (4, .int (nI 60)), (5, .int (sv_se s 0))]) O dX9_set_79 (by decide) [1, 2, 3, 4, 5, 0] rfl ?_
    refine g_iload O dX9_set_81 5 rfl ?_
    refine g_iload_n O dX9_set_83 2 rfl rfl ?_
    refine g_icmp_ne (tgt := 90) O dX9_set_84 (by decide) (fun c_11 => absurd c_11 (fun h => h hb.symm)) (fun c_11 => ?_)
    refine g_bipush (x := (-5)) O dX9_set_87 (by decide +kernel) ?_
    exact E 89 _ (-5) _ dX9_set_89 ⟨rfl, rfl⟩
  ·
    refine g_iload_n O dX9_set_0 1 rfl rfl ?_
    refine g_iconst (x := (nI 1)) O dX9_set_1 (by decide +kernel) ?_
    refine g_icmp_neN (tgt := 9) O (by omega) (by omega) dX9_set_2 (by decide) (fun c_12 => absurd c_12 (by decide)) (fun c_12 => ?_)
    refine g_iconst (x := (nI 1)) O dX9_set_5 (by decide +kernel) ?_
    refine g_goto (tgt := 20) O dX9_set_6 (by decide) ?_
    refine g_istore_n (L' := [(0, .ref u0), (1, .int (nI 1)), (2, .int x), (3, .int (nI 1))]) O dX9_set_20 rfl (by decide) [1, 2, 3, 0] rfl ?_
    refine g_iload_n O dX9_set_21 1 rfl rfl ?_
    refine g_iconst (x := (nI 1)) O dX9_set_22 (by decide +kernel) ?_
    refine g_icmp_neN (tgt := 32) O (by omega) (by omega) dX9_set_23 (by decide) (fun c_13 => absurd c_13 (by decide)) (fun c_13 => ?_)
    refine g_sipush (x := (nI 150)) O dX9_set_26 (by decide +kernel) ?_
    refine g_goto (tgt := 45) O dX9_set_29 (by decide) ?_
    refine g_istore (L' := [(0, .ref u0), (1, .int (nI 1)), (2, .int x), (3, .int (nI 1)), (4, .int (nI 150))]) O dX9_set_45 (by decide) [1, 2, 3, 4, 0] rfl ?_
    refine g_iload_n O dX9_set_47 1 rfl rfl ?_
    refine g_iconst (x := (nI 0)) O dX9_set_48 (by decide +kernel) ?_
    refine g_iconst (x := (nI 3)) O dX9_set_49 (by decide +kernel) ?_
    refine g_callS (As := [.int (nI 1), .int (nI 0), .int (nI 3)]) (wr := [(u0, .inr (9, [.ref u1, .ref u2, .ref u3, .ref u4, .ref u5, .ref u6, .int (nI kn), .ref u7, .int (bB ik), .ref u8, .int (nI ty), .ref u9, .int (nI ta), .int (bB iw), .ref u10, .ref u11])), (u5, .inl (tyI D, 208, .inl M))]) O (kX9_in l D z (nI 1) (nI 0) (nI 3) ) gX9_set_X9_in rfl rfl rfl 3 (by decide +kernel) (by decide) (by decide) [] [0, 1] rfl (by decide) rfl (by decide) (by decide) rfl rfl (Nat.le_of_ble_eq_true rfl) dX9_set_50 (fun r_14 w_15 hp => ?_)
    obtain ⟨rfl, rfl⟩ := hp
    refine g_eq (st' := [.int (bB (inI (nI 1) (nI 0) (nI 3)))]) (ws' := [(u0, .inr (9, [.ref u1, .ref u2, .ref u3, .ref u4, .ref u5, .ref u6, .int (nI kn), .ref u7, .int (bB ik), .ref u8, .int (nI ty), .ref u9, .int (nI ta), .int (bB iw), .ref u10, .ref u11])), (u5, .inl (tyI D, 208, .inl M))]) rfl rfl rfl ?_
    refine g_eq (st' := [.int (bB (rgB (nI 1) 4))]) (by rw [inI_r _ (by decide)]) rfl rfl ?_
    refine g_if_eqB (tgt := 66) O dX9_set_53 (by decide) (fun c_16 => absurd c_16 (by decide)) (fun c_16 => ?_)
    refine g_iload_n O dX9_set_56 2 rfl rfl ?_
    refine g_iload_n O dX9_set_57 3 rfl rfl ?_
    refine g_iload O dX9_set_58 4 rfl ?_
    refine g_callS (As := [.int x, .int (nI 1), .int (nI 150)]) (wr := [(u0, .inr (9, [.ref u1, .ref u2, .ref u3, .ref u4, .ref u5, .ref u6, .int (nI kn), .ref u7, .int (bB ik), .ref u8, .int (nI ty), .ref u9, .int (nI ta), .int (bB iw), .ref u10, .ref u11])), (u5, .inl (tyI D, 208, .inl M))]) O (kX9_in l D z x (nI 1) (nI 150) ) gX9_set_X9_in rfl rfl rfl 3 (by decide +kernel) (by decide) (by decide) [] [0, 1] rfl (by decide) rfl (by decide) (by decide) rfl rfl (Nat.le_of_ble_eq_true rfl) dX9_set_60 (fun r_17 w_18 hp => ?_)
    obtain ⟨rfl, rfl⟩ := hp
    refine g_eq (st' := [.int (bB (inI x (nI 1) (nI 150)))]) (ws' := [(u0, .inr (9, [.ref u1, .ref u2, .ref u3, .ref u4, .ref u5, .ref u6, .int (nI kn), .ref u7, .int (bB ik), .ref u8, .int (nI ty), .ref u9, .int (nI ta), .int (bB iw), .ref u10, .ref u11])), (u5, .inl (tyI D, 208, .inl M))]) rfl rfl rfl ?_
    refine g_if_neB (tgt := 69) O dX9_set_63 (by decide) (fun c_19 => ?_) (fun c_19 => absurd c_19 (by intro h; have h2 := inI_t (Int32.not_lt.mp hv1) hv2; exact absurd (h2.symm.trans h) (by decide)))
    refine g_aload_n O dX9_set_69 0 rfl rfl ?_
    refine g_get O hiX9_set_X9 0 rfl rfl 4 (by decide) (by decide +kernel) rfl dX9_set_70 ?_
    refine g_sipush (x := (nI 144)) O dX9_set_73 (by decide +kernel) ?_
    refine g_iload_n O dX9_set_76 1 rfl rfl ?_
    refine g_iaddN O dX9_set_77 ?_
    refine g_ialdN O 1 rfl (by omega) (by omega) dX9_set_78 ?_
    refine g_eq (st' := [.int (sv_se s 1)]) (by rw [RM_se hM (show 1 < 4 by omega)]) rfl rfl ?_
    refine g_istore (L' := [(0, .ref u0), (1, .int (nI 1)), (2, .int x), (3, .int (nI 1)), (4, .int (nI 150)), (5, .int (sv_se s 1))]) O dX9_set_79 (by decide) [1, 2, 3, 4, 5, 0] rfl ?_
    refine g_iload O dX9_set_81 5 rfl ?_
    refine g_iload_n O dX9_set_83 2 rfl rfl ?_
    refine g_icmp_ne (tgt := 90) O dX9_set_84 (by decide) (fun c_20 => absurd c_20 (fun h => h hb.symm)) (fun c_20 => ?_)
    refine g_bipush (x := (-5)) O dX9_set_87 (by decide +kernel) ?_
    exact E 89 _ (-5) _ dX9_set_89 ⟨rfl, rfl⟩
  ·
    refine g_iload_n O dX9_set_0 1 rfl rfl ?_
    refine g_iconst (x := (nI 1)) O dX9_set_1 (by decide +kernel) ?_
    refine g_icmp_neN (tgt := 9) O (by omega) (by omega) dX9_set_2 (by decide) (fun c_21 => ?_) (fun c_21 => absurd c_21 (by decide))
    refine g_iload_n O dX9_set_9 1 rfl rfl ?_
    refine g_iconst (x := (nI 3)) O dX9_set_10 (by decide +kernel) ?_
    refine g_icmp_neN (tgt := 19) O (by omega) (by omega) dX9_set_11 (by decide) (fun c_22 => ?_) (fun c_22 => absurd c_22 (by decide))
    refine g_iconst (x := (nI 0)) O dX9_set_19 (by decide +kernel) ?_
    refine g_istore_n (L' := [(0, .ref u0), (1, .int (nI 2)), (2, .int x), (3, .int (nI 0))]) O dX9_set_20 rfl (by decide) [1, 2, 3, 0] rfl ?_
    refine g_iload_n O dX9_set_21 1 rfl rfl ?_
    refine g_iconst (x := (nI 1)) O dX9_set_22 (by decide +kernel) ?_
    refine g_icmp_neN (tgt := 32) O (by omega) (by omega) dX9_set_23 (by decide) (fun c_23 => ?_) (fun c_23 => absurd c_23 (by decide))
    refine g_iload_n O dX9_set_32 1 rfl rfl ?_
    refine g_iconst (x := (nI 3)) O dX9_set_33 (by decide +kernel) ?_
    refine g_icmp_neN (tgt := 43) O (by omega) (by omega) dX9_set_34 (by decide) (fun c_24 => ?_) (fun c_24 => absurd c_24 (by decide))
    refine g_bipush (x := (nI 60)) O dX9_set_43 (by decide +kernel) ?_
    refine g_istore (L' := [(0, .ref u0), (1, .int (nI 2)), (2, .int x), (3, .int (nI 0)), (4, .int (nI 60))]) O dX9_set_45 (by decide) [1, 2, 3, 4, 0] rfl ?_
    refine g_iload_n O dX9_set_47 1 rfl rfl ?_
    refine g_iconst (x := (nI 0)) O dX9_set_48 (by decide +kernel) ?_
    refine g_iconst (x := (nI 3)) O dX9_set_49 (by decide +kernel) ?_
    refine g_callS (As := [.int (nI 2), .int (nI 0), .int (nI 3)]) (wr := [(u0, .inr (9, [.ref u1, .ref u2, .ref u3, .ref u4, .ref u5, .ref u6, .int (nI kn), .ref u7, .int (bB ik), .ref u8, .int (nI ty), .ref u9, .int (nI ta), .int (bB iw), .ref u10, .ref u11])), (u5, .inl (tyI D, 208, .inl M))]) O (kX9_in l D z (nI 2) (nI 0) (nI 3) ) gX9_set_X9_in rfl rfl rfl 3 (by decide +kernel) (by decide) (by decide) [] [0, 1] rfl (by decide) rfl (by decide) (by decide) rfl rfl (Nat.le_of_ble_eq_true rfl) dX9_set_50 (fun r_25 w_26 hp => ?_)
    obtain ⟨rfl, rfl⟩ := hp
    refine g_eq (st' := [.int (bB (inI (nI 2) (nI 0) (nI 3)))]) (ws' := [(u0, .inr (9, [.ref u1, .ref u2, .ref u3, .ref u4, .ref u5, .ref u6, .int (nI kn), .ref u7, .int (bB ik), .ref u8, .int (nI ty), .ref u9, .int (nI ta), .int (bB iw), .ref u10, .ref u11])), (u5, .inl (tyI D, 208, .inl M))]) rfl rfl rfl ?_
    refine g_eq (st' := [.int (bB (rgB (nI 2) 4))]) (by rw [inI_r _ (by decide)]) rfl rfl ?_
    refine g_if_eqB (tgt := 66) O dX9_set_53 (by decide) (fun c_27 => absurd c_27 (by decide)) (fun c_27 => ?_)
    refine g_iload_n O dX9_set_56 2 rfl rfl ?_
    refine g_iload_n O dX9_set_57 3 rfl rfl ?_
    refine g_iload O dX9_set_58 4 rfl ?_
    refine g_callS (As := [.int x, .int (nI 0), .int (nI 60)]) (wr := [(u0, .inr (9, [.ref u1, .ref u2, .ref u3, .ref u4, .ref u5, .ref u6, .int (nI kn), .ref u7, .int (bB ik), .ref u8, .int (nI ty), .ref u9, .int (nI ta), .int (bB iw), .ref u10, .ref u11])), (u5, .inl (tyI D, 208, .inl M))]) O (kX9_in l D z x (nI 0) (nI 60) ) gX9_set_X9_in rfl rfl rfl 3 (by decide +kernel) (by decide) (by decide) [] [0, 1] rfl (by decide) rfl (by decide) (by decide) rfl rfl (Nat.le_of_ble_eq_true rfl) dX9_set_60 (fun r_28 w_29 hp => ?_)
    obtain ⟨rfl, rfl⟩ := hp
    refine g_eq (st' := [.int (bB (inI x (nI 0) (nI 60)))]) (ws' := [(u0, .inr (9, [.ref u1, .ref u2, .ref u3, .ref u4, .ref u5, .ref u6, .int (nI kn), .ref u7, .int (bB ik), .ref u8, .int (nI ty), .ref u9, .int (nI ta), .int (bB iw), .ref u10, .ref u11])), (u5, .inl (tyI D, 208, .inl M))]) rfl rfl rfl ?_
    refine g_if_neB (tgt := 69) O dX9_set_63 (by decide) (fun c_30 => ?_) (fun c_30 => absurd c_30 (by intro h; have h2 := inI_t (Int32.not_lt.mp hv1) hv2; exact absurd (h2.symm.trans h) (by decide)))
    refine g_aload_n O dX9_set_69 0 rfl rfl ?_
    refine g_get O hiX9_set_X9 0 rfl rfl 4 (by decide) (by decide +kernel) rfl dX9_set_70 ?_
    refine g_sipush (x := (nI 144)) O dX9_set_73 (by decide +kernel) ?_
    refine g_iload_n O dX9_set_76 1 rfl rfl ?_
    refine g_iaddN O dX9_set_77 ?_
    refine g_ialdN O 1 rfl (by omega) (by omega) dX9_set_78 ?_
    refine g_eq (st' := [.int (sv_se s 2)]) (by rw [RM_se hM (show 2 < 4 by omega)]) rfl rfl ?_
    refine g_istore (L' := [(0, .ref u0), (1, .int (nI 2)), (2, .int x), (3, .int (nI 0)), (4, .int (nI 60)), (5, .int (sv_se s 2))]) O dX9_set_79 (by decide) [1, 2, 3, 4, 5, 0] rfl ?_
    refine g_iload O dX9_set_81 5 rfl ?_
    refine g_iload_n O dX9_set_83 2 rfl rfl ?_
    refine g_icmp_ne (tgt := 90) O dX9_set_84 (by decide) (fun c_31 => absurd c_31 (fun h => h hb.symm)) (fun c_31 => ?_)
    refine g_bipush (x := (-5)) O dX9_set_87 (by decide +kernel) ?_
    exact E 89 _ (-5) _ dX9_set_89 ⟨rfl, rfl⟩
  ·
    refine g_iload_n O dX9_set_0 1 rfl rfl ?_
    refine g_iconst (x := (nI 1)) O dX9_set_1 (by decide +kernel) ?_
    refine g_icmp_neN (tgt := 9) O (by omega) (by omega) dX9_set_2 (by decide) (fun c_32 => ?_) (fun c_32 => absurd c_32 (by decide))
    refine g_iload_n O dX9_set_9 1 rfl rfl ?_
    refine g_iconst (x := (nI 3)) O dX9_set_10 (by decide +kernel) ?_
    refine g_icmp_neN (tgt := 19) O (by omega) (by omega) dX9_set_11 (by decide) (fun c_33 => absurd c_33 (by decide)) (fun c_33 => ?_)
    refine g_bipush (x := (nI 50)) O dX9_set_14 (by decide +kernel) ?_
    refine g_goto (tgt := 20) O dX9_set_16 (by decide) ?_
    refine g_istore_n (L' := [(0, .ref u0), (1, .int (nI 3)), (2, .int x), (3, .int (nI 50))]) O dX9_set_20 rfl (by decide) [1, 2, 3, 0] rfl ?_
    refine g_iload_n O dX9_set_21 1 rfl rfl ?_
    refine g_iconst (x := (nI 1)) O dX9_set_22 (by decide +kernel) ?_
    refine g_icmp_neN (tgt := 32) O (by omega) (by omega) dX9_set_23 (by decide) (fun c_34 => ?_) (fun c_34 => absurd c_34 (by decide))
    refine g_iload_n O dX9_set_32 1 rfl rfl ?_
    refine g_iconst (x := (nI 3)) O dX9_set_33 (by decide +kernel) ?_
    refine g_icmp_neN (tgt := 43) O (by omega) (by omega) dX9_set_34 (by decide) (fun c_35 => absurd c_35 (by decide)) (fun c_35 => ?_)
    refine g_sipush (x := (nI 201)) O dX9_set_37 (by decide +kernel) ?_
    refine g_goto (tgt := 45) O dX9_set_40 (by decide) ?_
    refine g_istore (L' := [(0, .ref u0), (1, .int (nI 3)), (2, .int x), (3, .int (nI 50)), (4, .int (nI 201))]) O dX9_set_45 (by decide) [1, 2, 3, 4, 0] rfl ?_
    refine g_iload_n O dX9_set_47 1 rfl rfl ?_
    refine g_iconst (x := (nI 0)) O dX9_set_48 (by decide +kernel) ?_
    refine g_iconst (x := (nI 3)) O dX9_set_49 (by decide +kernel) ?_
    refine g_callS (As := [.int (nI 3), .int (nI 0), .int (nI 3)]) (wr := [(u0, .inr (9, [.ref u1, .ref u2, .ref u3, .ref u4, .ref u5, .ref u6, .int (nI kn), .ref u7, .int (bB ik), .ref u8, .int (nI ty), .ref u9, .int (nI ta), .int (bB iw), .ref u10, .ref u11])), (u5, .inl (tyI D, 208, .inl M))]) O (kX9_in l D z (nI 3) (nI 0) (nI 3) ) gX9_set_X9_in rfl rfl rfl 3 (by decide +kernel) (by decide) (by decide) [] [0, 1] rfl (by decide) rfl (by decide) (by decide) rfl rfl (Nat.le_of_ble_eq_true rfl) dX9_set_50 (fun r_36 w_37 hp => ?_)
    obtain ⟨rfl, rfl⟩ := hp
    refine g_eq (st' := [.int (bB (inI (nI 3) (nI 0) (nI 3)))]) (ws' := [(u0, .inr (9, [.ref u1, .ref u2, .ref u3, .ref u4, .ref u5, .ref u6, .int (nI kn), .ref u7, .int (bB ik), .ref u8, .int (nI ty), .ref u9, .int (nI ta), .int (bB iw), .ref u10, .ref u11])), (u5, .inl (tyI D, 208, .inl M))]) rfl rfl rfl ?_
    refine g_eq (st' := [.int (bB (rgB (nI 3) 4))]) (by rw [inI_r _ (by decide)]) rfl rfl ?_
    refine g_if_eqB (tgt := 66) O dX9_set_53 (by decide) (fun c_38 => absurd c_38 (by decide)) (fun c_38 => ?_)
    refine g_iload_n O dX9_set_56 2 rfl rfl ?_
    refine g_iload_n O dX9_set_57 3 rfl rfl ?_
    refine g_iload O dX9_set_58 4 rfl ?_
    refine g_callS (As := [.int x, .int (nI 50), .int (nI 201)]) (wr := [(u0, .inr (9, [.ref u1, .ref u2, .ref u3, .ref u4, .ref u5, .ref u6, .int (nI kn), .ref u7, .int (bB ik), .ref u8, .int (nI ty), .ref u9, .int (nI ta), .int (bB iw), .ref u10, .ref u11])), (u5, .inl (tyI D, 208, .inl M))]) O (kX9_in l D z x (nI 50) (nI 201) ) gX9_set_X9_in rfl rfl rfl 3 (by decide +kernel) (by decide) (by decide) [] [0, 1] rfl (by decide) rfl (by decide) (by decide) rfl rfl (Nat.le_of_ble_eq_true rfl) dX9_set_60 (fun r_39 w_40 hp => ?_)
    obtain ⟨rfl, rfl⟩ := hp
    refine g_eq (st' := [.int (bB (inI x (nI 50) (nI 201)))]) (ws' := [(u0, .inr (9, [.ref u1, .ref u2, .ref u3, .ref u4, .ref u5, .ref u6, .int (nI kn), .ref u7, .int (bB ik), .ref u8, .int (nI ty), .ref u9, .int (nI ta), .int (bB iw), .ref u10, .ref u11])), (u5, .inl (tyI D, 208, .inl M))]) rfl rfl rfl ?_
    refine g_if_neB (tgt := 69) O dX9_set_63 (by decide) (fun c_41 => ?_) (fun c_41 => absurd c_41 (by intro h; have h2 := inI_t (Int32.not_lt.mp hv1) hv2; exact absurd (h2.symm.trans h) (by decide)))
    refine g_aload_n O dX9_set_69 0 rfl rfl ?_
    refine g_get O hiX9_set_X9 0 rfl rfl 4 (by decide) (by decide +kernel) rfl dX9_set_70 ?_
    refine g_sipush (x := (nI 144)) O dX9_set_73 (by decide +kernel) ?_
    refine g_iload_n O dX9_set_76 1 rfl rfl ?_
    refine g_iaddN O dX9_set_77 ?_
    refine g_ialdN O 1 rfl (by omega) (by omega) dX9_set_78 ?_
    refine g_eq (st' := [.int (sv_se s 3)]) (by rw [RM_se hM (show 3 < 4 by omega)]) rfl rfl ?_
    refine g_istore (L' := [(0, .ref u0), (1, .int (nI 3)), (2, .int x), (3, .int (nI 50)), (4, .int (nI 201)), (5, .int (sv_se s 3))]) O dX9_set_79 (by decide) [1, 2, 3, 4, 5, 0] rfl ?_
    refine g_iload O dX9_set_81 5 rfl ?_
    refine g_iload_n O dX9_set_83 2 rfl rfl ?_
    refine g_icmp_ne (tgt := 90) O dX9_set_84 (by decide) (fun c_42 => absurd c_42 (fun h => h hb.symm)) (fun c_42 => ?_)
    refine g_bipush (x := (-5)) O dX9_set_87 (by decide +kernel) ?_
    exact E 89 _ (-5) _ dX9_set_89 ⟨rfl, rfl⟩
