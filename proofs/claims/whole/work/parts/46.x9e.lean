theorem hiX9_sign_X9 : ∀ w ∈ wsX90, w ∈ wsX9_sign := by decide +kernel
set_option maxHeartbeats 4000000 in
set_option maxRecDepth 100000 in
/-- a sign is read -/
theorem kX9_sign (l : Launch) (D : va_G) (z : Nat × Nat × Nat) (u0 : Nat) (u1 : Nat) (u2 : Nat) (u3 : Nat) (u4 : Nat) (u5 : Nat) (u6 : Nat) (u7 : Nat) (u8 : Nat) (u9 : Nat) (u10 : Nat) (u11 : Nat) (kn : Nat) (ik : Bool) (ty : Nat) (ta : Nat) (iw : Bool) (tx : Nat → Nat) (lo : Nat) (hi : Nat) (hty : ty ≤ 60) (hta : ta ≤ 1000) (htx : ∀ j, j < ty → tx j < 65536) (hlo : lo < 1000) (hhi : hi < 1000) : CM l yX9_sign wsX9_sign ({ frames := 1, cells := 0, slots := 0, locals := 22 } : Room) D z [.ref u0, .int (nI lo), .int (nI hi)] [(u0, .inr (9, [.ref u1, .ref u2, .ref u3, .ref u4, .ref u5, .ref u6, .int (nI kn), .ref u7, .int (bB ik), .ref u8, .int (nI ty), .ref u9, .int (nI ta), .int (bB iw), .ref u10, .ref u11])), (u8, .inl ((TY D)[0].1, 60, .inl (nf tx)))] (fun r_ w_ => r_ = some (.int (nI (chV tx ty ta))) ∧ w_ = [(u0, .inr (9, [.ref u1, .ref u2, .ref u3, .ref u4, .ref u5, .ref u6, .int (nI kn), .ref u7, .int (bB ik), .ref u8, .int (nI ty), .ref u9, .int (nI (sgA tx ty ta iw lo hi)), .int (bB (sgW tx ty ta iw lo hi)), .ref u10, .ref u11])), (u8, .inl ((TY D)[0].1, 60, .inl (nf tx)))]) 0 0 := by
  refine CM_int (own := RX9) (cc := cX9_sign) (maxL := 4) (L0 := [(0, .ref u0), (1, .int (nI lo)), (2, .int (nI hi))]) (by decide) rfl rfl (Nat.le_of_ble_eq_true rfl) rfl (fun X O E => ?_)
  refine g_aload_n O dX9_sign_0 0 rfl rfl ?_
  refine g_get O hiX9_sign_X9 0 rfl rfl 12 (by decide) (by decide +kernel) rfl dX9_sign_1 ?_
  refine g_aload_n O dX9_sign_4 0 rfl rfl ?_
  refine g_get O hiX9_sign_X9 0 rfl rfl 10 (by decide) (by decide +kernel) rfl dX9_sign_5 ?_
  refine g_icmp_geN (tgt := 23) O (by omega) (by omega) dX9_sign_8 (by decide) (fun c_1 => ?_) (fun c_1 => ?_)
  ·
    have hc : chV tx ty ta = 0 := by simp only [chV]; rw [if_neg (by omega)]
    refine g_iconst (x := (nI 0)) O dX9_sign_23 (by decide +kernel) ?_
    refine g_istore_n (L' := [(0, .ref u0), (1, .int (nI lo)), (2, .int (nI hi)), (3, .int (nI 0))]) O dX9_sign_24 rfl (by decide) [1, 2, 3, 0] rfl ?_
    refine g_aload_n O dX9_sign_25 0 rfl rfl ?_
    refine g_aload_n O dX9_sign_26 0 rfl rfl ?_
    refine g_get O hiX9_sign_X9 0 rfl rfl 13 (by decide) (by decide +kernel) rfl dX9_sign_27 ?_
    refine g_if_neB (tgt := 42) O dX9_sign_30 (by decide) (fun c_2 => ?_) (fun c_2 => ?_)
    ·
      have hs_ : sgW tx ty ta iw lo hi = true := by simp only [sgW]; rw [c_2]; rfl
      refine g_iconst (x := (nI 1)) O dX9_sign_42 (by decide +kernel) ?_
      refine g_goto (tgt := 47) O dX9_sign_43 (by decide) ?_
      refine g_eq (st' := [.int (bB true), .ref u0]) rfl rfl rfl ?_
      have hs : sgW tx ty ta iw lo hi = true := hs_
      refine g_put (ws' := [(u0, .inr (9, [.ref u1, .ref u2, .ref u3, .ref u4, .ref u5, .ref u6, .int (nI kn), .ref u7, .int (bB ik), .ref u8, .int (nI ty), .ref u9, .int (nI ta), .int (bB true), .ref u10, .ref u11])), (u8, .inl ((TY D)[0].1, 60, .inl (nf tx)))]) O hiX9_sign_X9 tyX9 tyX9_ok nmX9 0 rfl rfl 13 (by decide) (by decide +kernel) rfl (tyX9_ok 13 (by decide)) (bB_nn _) (bB_fit _) (Nat.le_of_ble_eq_true rfl) dX9_sign_47 rfl ?_
      refine g_aload_n O dX9_sign_50 0 rfl rfl ?_
      refine g_dup O dX9_sign_51 rfl ?_
      refine g_get O hiX9_sign_X9 0 rfl rfl 12 (by decide) (by decide +kernel) rfl dX9_sign_52 ?_
      refine g_aload_n O dX9_sign_55 0 rfl rfl ?_
      refine g_get O hiX9_sign_X9 0 rfl rfl 13 (by decide) (by decide +kernel) rfl dX9_sign_56 ?_
      refine g_if_eqB (tgt := 66) O dX9_sign_59 (by decide) (fun c_3 => absurd c_3 (by decide)) (fun c_3 => ?_)
      refine g_iconst (x := (nI 0)) O dX9_sign_62 (by decide +kernel) ?_
      refine g_goto (tgt := 67) O dX9_sign_63 (by decide) ?_
      refine g_iaddN O dX9_sign_67 ?_
      refine g_put (ws' := [(u0, .inr (9, [.ref u1, .ref u2, .ref u3, .ref u4, .ref u5, .ref u6, .int (nI kn), .ref u7, .int (bB ik), .ref u8, .int (nI ty), .ref u9, .int (nI (ta + 0)), .int (bB true), .ref u10, .ref u11])), (u8, .inl ((TY D)[0].1, 60, .inl (nf tx)))]) O hiX9_sign_X9 tyX9 tyX9_ok nmX9 0 rfl rfl 12 (by decide) (by decide +kernel) rfl (tyX9_ok 12 (by decide)) rfl rfl (Nat.le_of_ble_eq_true rfl) dX9_sign_68 rfl ?_
      refine g_iload_n O dX9_sign_71 3 rfl rfl ?_
      exact E 72 _ (nI 0) _ dX9_sign_72 (by unfold sgA; rw [hs, hc]; exact ⟨rfl, rfl⟩)
    ·
      have h30 := c_2
      refine g_iload_n O dX9_sign_33 3 rfl rfl ?_
      refine g_iload_n O dX9_sign_34 1 rfl rfl ?_
      refine g_iload_n O dX9_sign_35 2 rfl rfl ?_
      refine g_callS (As := [.int (nI 0), .int (nI lo), .int (nI hi)]) (wr := [(u0, .inr (9, [.ref u1, .ref u2, .ref u3, .ref u4, .ref u5, .ref u6, .int (nI kn), .ref u7, .int (bB ik), .ref u8, .int (nI ty), .ref u9, .int (nI ta), .int (bB iw), .ref u10, .ref u11])), (u8, .inl ((TY D)[0].1, 60, .inl (nf tx)))]) O (kX9_in l D z (nI 0) (nI lo) (nI hi) ) gX9_sign_X9_in rfl rfl rfl 3 (by decide +kernel) (by decide) (by decide) [] [0, 1] rfl (by decide) rfl (by decide) (by decide) rfl rfl (Nat.le_of_ble_eq_true rfl) dX9_sign_36 (fun r_4 w_5 hp => ?_)
      obtain ⟨rfl, rfl⟩ := hp
      refine g_eq (st' := [.int (bB (inI (nI 0) (nI lo) (nI hi))), .ref u0]) (ws' := [(u0, .inr (9, [.ref u1, .ref u2, .ref u3, .ref u4, .ref u5, .ref u6, .int (nI kn), .ref u7, .int (bB ik), .ref u8, .int (nI ty), .ref u9, .int (nI ta), .int (bB iw), .ref u10, .ref u11])), (u8, .inl ((TY D)[0].1, 60, .inl (nf tx)))]) rfl rfl rfl ?_
      refine g_eq (st' := [.int (bB (decide (lo ≤ 0 ∧ 0 ≤ hi))), .ref u0]) (by rw [inI_N (by omega) (by omega) (by omega)]) rfl rfl ?_
      refine g_if_neB (tgt := 46) O dX9_sign_39 (by decide) (fun c_6 => ?_) (fun c_6 => ?_)
      ·
        have hs_ : sgW tx ty ta iw lo hi = false := by simp only [sgW]; rw [h30, hc, c_6]; rfl
        refine g_iconst (x := (nI 0)) O dX9_sign_46 (by decide +kernel) ?_
        refine g_eq (st' := [.int (bB false), .ref u0]) rfl rfl rfl ?_
        have hs : sgW tx ty ta iw lo hi = false := hs_
        refine g_put (ws' := [(u0, .inr (9, [.ref u1, .ref u2, .ref u3, .ref u4, .ref u5, .ref u6, .int (nI kn), .ref u7, .int (bB ik), .ref u8, .int (nI ty), .ref u9, .int (nI ta), .int (bB false), .ref u10, .ref u11])), (u8, .inl ((TY D)[0].1, 60, .inl (nf tx)))]) O hiX9_sign_X9 tyX9 tyX9_ok nmX9 0 rfl rfl 13 (by decide) (by decide +kernel) rfl (tyX9_ok 13 (by decide)) (bB_nn _) (bB_fit _) (Nat.le_of_ble_eq_true rfl) dX9_sign_47 rfl ?_
        refine g_aload_n O dX9_sign_50 0 rfl rfl ?_
        refine g_dup O dX9_sign_51 rfl ?_
        refine g_get O hiX9_sign_X9 0 rfl rfl 12 (by decide) (by decide +kernel) rfl dX9_sign_52 ?_
        refine g_aload_n O dX9_sign_55 0 rfl rfl ?_
        refine g_get O hiX9_sign_X9 0 rfl rfl 13 (by decide) (by decide +kernel) rfl dX9_sign_56 ?_
        refine g_if_eqB (tgt := 66) O dX9_sign_59 (by decide) (fun c_7 => ?_) (fun c_7 => absurd c_7 (by decide))
        refine g_iconst (x := (nI 1)) O dX9_sign_66 (by decide +kernel) ?_
        refine g_iaddN O dX9_sign_67 ?_
        refine g_put (ws' := [(u0, .inr (9, [.ref u1, .ref u2, .ref u3, .ref u4, .ref u5, .ref u6, .int (nI kn), .ref u7, .int (bB ik), .ref u8, .int (nI ty), .ref u9, .int (nI (ta + 1)), .int (bB false), .ref u10, .ref u11])), (u8, .inl ((TY D)[0].1, 60, .inl (nf tx)))]) O hiX9_sign_X9 tyX9 tyX9_ok nmX9 0 rfl rfl 12 (by decide) (by decide +kernel) rfl (tyX9_ok 12 (by decide)) rfl rfl (Nat.le_of_ble_eq_true rfl) dX9_sign_68 rfl ?_
        refine g_iload_n O dX9_sign_71 3 rfl rfl ?_
        exact E 72 _ (nI 0) _ dX9_sign_72 (by unfold sgA; rw [hs, hc]; exact ⟨rfl, rfl⟩)
      ·
        have hs_ : sgW tx ty ta iw lo hi = true := by simp only [sgW]; rw [h30, hc, c_6]; rfl
        refine g_iconst (x := (nI 1)) O dX9_sign_42 (by decide +kernel) ?_
        refine g_goto (tgt := 47) O dX9_sign_43 (by decide) ?_
        refine g_eq (st' := [.int (bB true), .ref u0]) rfl rfl rfl ?_
        have hs : sgW tx ty ta iw lo hi = true := hs_
        refine g_put (ws' := [(u0, .inr (9, [.ref u1, .ref u2, .ref u3, .ref u4, .ref u5, .ref u6, .int (nI kn), .ref u7, .int (bB ik), .ref u8, .int (nI ty), .ref u9, .int (nI ta), .int (bB true), .ref u10, .ref u11])), (u8, .inl ((TY D)[0].1, 60, .inl (nf tx)))]) O hiX9_sign_X9 tyX9 tyX9_ok nmX9 0 rfl rfl 13 (by decide) (by decide +kernel) rfl (tyX9_ok 13 (by decide)) (bB_nn _) (bB_fit _) (Nat.le_of_ble_eq_true rfl) dX9_sign_47 rfl ?_
        refine g_aload_n O dX9_sign_50 0 rfl rfl ?_
        refine g_dup O dX9_sign_51 rfl ?_
        refine g_get O hiX9_sign_X9 0 rfl rfl 12 (by decide) (by decide +kernel) rfl dX9_sign_52 ?_
        refine g_aload_n O dX9_sign_55 0 rfl rfl ?_
        refine g_get O hiX9_sign_X9 0 rfl rfl 13 (by decide) (by decide +kernel) rfl dX9_sign_56 ?_
        refine g_if_eqB (tgt := 66) O dX9_sign_59 (by decide) (fun c_8 => absurd c_8 (by decide)) (fun c_8 => ?_)
        refine g_iconst (x := (nI 0)) O dX9_sign_62 (by decide +kernel) ?_
        refine g_goto (tgt := 67) O dX9_sign_63 (by decide) ?_
        refine g_iaddN O dX9_sign_67 ?_
        refine g_put (ws' := [(u0, .inr (9, [.ref u1, .ref u2, .ref u3, .ref u4, .ref u5, .ref u6, .int (nI kn), .ref u7, .int (bB ik), .ref u8, .int (nI ty), .ref u9, .int (nI (ta + 0)), .int (bB true), .ref u10, .ref u11])), (u8, .inl ((TY D)[0].1, 60, .inl (nf tx)))]) O hiX9_sign_X9 tyX9 tyX9_ok nmX9 0 rfl rfl 12 (by decide) (by decide +kernel) rfl (tyX9_ok 12 (by decide)) rfl rfl (Nat.le_of_ble_eq_true rfl) dX9_sign_68 rfl ?_
        refine g_iload_n O dX9_sign_71 3 rfl rfl ?_
        exact E 72 _ (nI 0) _ dX9_sign_72 (by unfold sgA; rw [hs, hc]; exact ⟨rfl, rfl⟩)
  ·
    have hc : chV tx ty ta = tx ta := by simp only [chV]; rw [if_pos (by omega)]
    have htxa := htx ta (by omega)
    refine g_aload_n O dX9_sign_11 0 rfl rfl ?_
    refine g_get O hiX9_sign_X9 0 rfl rfl 9 (by decide) (by decide +kernel) rfl dX9_sign_12 ?_
    refine g_aload_n O dX9_sign_15 0 rfl rfl ?_
    refine g_get O hiX9_sign_X9 0 rfl rfl 12 (by decide) (by decide +kernel) rfl dX9_sign_16 ?_
    refine g_ialdN O 1 rfl (by omega) (by omega) dX9_sign_19 ?_
    refine g_goto (tgt := 24) O dX9_sign_20 (by decide) ?_
    refine g_istore_n (L' := [(0, .ref u0), (1, .int (nI lo)), (2, .int (nI hi)), (3, .int (nI (tx ta)))]) O dX9_sign_24 rfl (by decide) [1, 2, 3, 0] rfl ?_
    refine g_aload_n O dX9_sign_25 0 rfl rfl ?_
    refine g_aload_n O dX9_sign_26 0 rfl rfl ?_
    refine g_get O hiX9_sign_X9 0 rfl rfl 13 (by decide) (by decide +kernel) rfl dX9_sign_27 ?_
    refine g_if_neB (tgt := 42) O dX9_sign_30 (by decide) (fun c_9 => ?_) (fun c_9 => ?_)
    ·
      have hs_ : sgW tx ty ta iw lo hi = true := by simp only [sgW]; rw [c_9]; rfl
      refine g_iconst (x := (nI 1)) O dX9_sign_42 (by decide +kernel) ?_
      refine g_goto (tgt := 47) O dX9_sign_43 (by decide) ?_
      refine g_eq (st' := [.int (bB true), .ref u0]) rfl rfl rfl ?_
      have hs : sgW tx ty ta iw lo hi = true := hs_
      refine g_put (ws' := [(u0, .inr (9, [.ref u1, .ref u2, .ref u3, .ref u4, .ref u5, .ref u6, .int (nI kn), .ref u7, .int (bB ik), .ref u8, .int (nI ty), .ref u9, .int (nI ta), .int (bB true), .ref u10, .ref u11])), (u8, .inl ((TY D)[0].1, 60, .inl (nf tx)))]) O hiX9_sign_X9 tyX9 tyX9_ok nmX9 0 rfl rfl 13 (by decide) (by decide +kernel) rfl (tyX9_ok 13 (by decide)) (bB_nn _) (bB_fit _) (Nat.le_of_ble_eq_true rfl) dX9_sign_47 rfl ?_
      refine g_aload_n O dX9_sign_50 0 rfl rfl ?_
      refine g_dup O dX9_sign_51 rfl ?_
      refine g_get O hiX9_sign_X9 0 rfl rfl 12 (by decide) (by decide +kernel) rfl dX9_sign_52 ?_
      refine g_aload_n O dX9_sign_55 0 rfl rfl ?_
      refine g_get O hiX9_sign_X9 0 rfl rfl 13 (by decide) (by decide +kernel) rfl dX9_sign_56 ?_
      refine g_if_eqB (tgt := 66) O dX9_sign_59 (by decide) (fun c_10 => absurd c_10 (by decide)) (fun c_10 => ?_)
      refine g_iconst (x := (nI 0)) O dX9_sign_62 (by decide +kernel) ?_
      refine g_goto (tgt := 67) O dX9_sign_63 (by decide) ?_
      refine g_iaddN O dX9_sign_67 ?_
      refine g_put (ws' := [(u0, .inr (9, [.ref u1, .ref u2, .ref u3, .ref u4, .ref u5, .ref u6, .int (nI kn), .ref u7, .int (bB ik), .ref u8, .int (nI ty), .ref u9, .int (nI (ta + 0)), .int (bB true), .ref u10, .ref u11])), (u8, .inl ((TY D)[0].1, 60, .inl (nf tx)))]) O hiX9_sign_X9 tyX9 tyX9_ok nmX9 0 rfl rfl 12 (by decide) (by decide +kernel) rfl (tyX9_ok 12 (by decide)) rfl rfl (Nat.le_of_ble_eq_true rfl) dX9_sign_68 rfl ?_
      refine g_iload_n O dX9_sign_71 3 rfl rfl ?_
      exact E 72 _ (nI (tx ta)) _ dX9_sign_72 (by unfold sgA; rw [hs, hc]; exact ⟨rfl, rfl⟩)
    ·
      have h30 := c_9
      refine g_iload_n O dX9_sign_33 3 rfl rfl ?_
      refine g_iload_n O dX9_sign_34 1 rfl rfl ?_
      refine g_iload_n O dX9_sign_35 2 rfl rfl ?_
      refine g_callS (As := [.int (nI (tx ta)), .int (nI lo), .int (nI hi)]) (wr := [(u0, .inr (9, [.ref u1, .ref u2, .ref u3, .ref u4, .ref u5, .ref u6, .int (nI kn), .ref u7, .int (bB ik), .ref u8, .int (nI ty), .ref u9, .int (nI ta), .int (bB iw), .ref u10, .ref u11])), (u8, .inl ((TY D)[0].1, 60, .inl (nf tx)))]) O (kX9_in l D z (nI (tx ta)) (nI lo) (nI hi) ) gX9_sign_X9_in rfl rfl rfl 3 (by decide +kernel) (by decide) (by decide) [] [0, 1] rfl (by decide) rfl (by decide) (by decide) rfl rfl (Nat.le_of_ble_eq_true rfl) dX9_sign_36 (fun r_11 w_12 hp => ?_)
      obtain ⟨rfl, rfl⟩ := hp
      refine g_eq (st' := [.int (bB (inI (nI (tx ta)) (nI lo) (nI hi))), .ref u0]) (ws' := [(u0, .inr (9, [.ref u1, .ref u2, .ref u3, .ref u4, .ref u5, .ref u6, .int (nI kn), .ref u7, .int (bB ik), .ref u8, .int (nI ty), .ref u9, .int (nI ta), .int (bB iw), .ref u10, .ref u11])), (u8, .inl ((TY D)[0].1, 60, .inl (nf tx)))]) rfl rfl rfl ?_
      refine g_eq (st' := [.int (bB (decide (lo ≤ tx ta ∧ tx ta ≤ hi))), .ref u0]) (by rw [inI_N (by omega) (by omega) (by omega)]) rfl rfl ?_
      refine g_if_neB (tgt := 46) O dX9_sign_39 (by decide) (fun c_13 => ?_) (fun c_13 => ?_)
      ·
        have hs_ : sgW tx ty ta iw lo hi = false := by simp only [sgW]; rw [h30, hc, c_13]; rfl
        refine g_iconst (x := (nI 0)) O dX9_sign_46 (by decide +kernel) ?_
        refine g_eq (st' := [.int (bB false), .ref u0]) rfl rfl rfl ?_
        have hs : sgW tx ty ta iw lo hi = false := hs_
        refine g_put (ws' := [(u0, .inr (9, [.ref u1, .ref u2, .ref u3, .ref u4, .ref u5, .ref u6, .int (nI kn), .ref u7, .int (bB ik), .ref u8, .int (nI ty), .ref u9, .int (nI ta), .int (bB false), .ref u10, .ref u11])), (u8, .inl ((TY D)[0].1, 60, .inl (nf tx)))]) O hiX9_sign_X9 tyX9 tyX9_ok nmX9 0 rfl rfl 13 (by decide) (by decide +kernel) rfl (tyX9_ok 13 (by decide)) (bB_nn _) (bB_fit _) (Nat.le_of_ble_eq_true rfl) dX9_sign_47 rfl ?_
        refine g_aload_n O dX9_sign_50 0 rfl rfl ?_
        refine g_dup O dX9_sign_51 rfl ?_
        refine g_get O hiX9_sign_X9 0 rfl rfl 12 (by decide) (by decide +kernel) rfl dX9_sign_52 ?_
        refine g_aload_n O dX9_sign_55 0 rfl rfl ?_
        refine g_get O hiX9_sign_X9 0 rfl rfl 13 (by decide) (by decide +kernel) rfl dX9_sign_56 ?_
        refine g_if_eqB (tgt := 66) O dX9_sign_59 (by decide) (fun c_14 => ?_) (fun c_14 => absurd c_14 (by decide))
        refine g_iconst (x := (nI 1)) O dX9_sign_66 (by decide +kernel) ?_
        refine g_iaddN O dX9_sign_67 ?_
        refine g_put (ws' := [(u0, .inr (9, [.ref u1, .ref u2, .ref u3, .ref u4, .ref u5, .ref u6, .int (nI kn), .ref u7, .int (bB ik), .ref u8, .int (nI ty), .ref u9, .int (nI (ta + 1)), .int (bB false), .ref u10, .ref u11])), (u8, .inl ((TY D)[0].1, 60, .inl (nf tx)))]) O hiX9_sign_X9 tyX9 tyX9_ok nmX9 0 rfl rfl 12 (by decide) (by decide +kernel) rfl (tyX9_ok 12 (by decide)) rfl rfl (Nat.le_of_ble_eq_true rfl) dX9_sign_68 rfl ?_
        refine g_iload_n O dX9_sign_71 3 rfl rfl ?_
        exact E 72 _ (nI (tx ta)) _ dX9_sign_72 (by unfold sgA; rw [hs, hc]; exact ⟨rfl, rfl⟩)
      ·
        have hs_ : sgW tx ty ta iw lo hi = true := by simp only [sgW]; rw [h30, hc, c_13]; rfl
        refine g_iconst (x := (nI 1)) O dX9_sign_42 (by decide +kernel) ?_
        refine g_goto (tgt := 47) O dX9_sign_43 (by decide) ?_
        refine g_eq (st' := [.int (bB true), .ref u0]) rfl rfl rfl ?_
        have hs : sgW tx ty ta iw lo hi = true := hs_
        refine g_put (ws' := [(u0, .inr (9, [.ref u1, .ref u2, .ref u3, .ref u4, .ref u5, .ref u6, .int (nI kn), .ref u7, .int (bB ik), .ref u8, .int (nI ty), .ref u9, .int (nI ta), .int (bB true), .ref u10, .ref u11])), (u8, .inl ((TY D)[0].1, 60, .inl (nf tx)))]) O hiX9_sign_X9 tyX9 tyX9_ok nmX9 0 rfl rfl 13 (by decide) (by decide +kernel) rfl (tyX9_ok 13 (by decide)) (bB_nn _) (bB_fit _) (Nat.le_of_ble_eq_true rfl) dX9_sign_47 rfl ?_
        refine g_aload_n O dX9_sign_50 0 rfl rfl ?_
        refine g_dup O dX9_sign_51 rfl ?_
        refine g_get O hiX9_sign_X9 0 rfl rfl 12 (by decide) (by decide +kernel) rfl dX9_sign_52 ?_
        refine g_aload_n O dX9_sign_55 0 rfl rfl ?_
        refine g_get O hiX9_sign_X9 0 rfl rfl 13 (by decide) (by decide +kernel) rfl dX9_sign_56 ?_
        refine g_if_eqB (tgt := 66) O dX9_sign_59 (by decide) (fun c_15 => absurd c_15 (by decide)) (fun c_15 => ?_)
        refine g_iconst (x := (nI 0)) O dX9_sign_62 (by decide +kernel) ?_
        refine g_goto (tgt := 67) O dX9_sign_63 (by decide) ?_
        refine g_iaddN O dX9_sign_67 ?_
        refine g_put (ws' := [(u0, .inr (9, [.ref u1, .ref u2, .ref u3, .ref u4, .ref u5, .ref u6, .int (nI kn), .ref u7, .int (bB ik), .ref u8, .int (nI ty), .ref u9, .int (nI (ta + 0)), .int (bB true), .ref u10, .ref u11])), (u8, .inl ((TY D)[0].1, 60, .inl (nf tx)))]) O hiX9_sign_X9 tyX9 tyX9_ok nmX9 0 rfl rfl 12 (by decide) (by decide +kernel) rfl (tyX9_ok 12 (by decide)) rfl rfl (Nat.le_of_ble_eq_true rfl) dX9_sign_68 rfl ?_
        refine g_iload_n O dX9_sign_71 3 rfl rfl ?_
        exact E 72 _ (nI (tx ta)) _ dX9_sign_72 (by unfold sgA; rw [hs, hc]; exact ⟨rfl, rfl⟩)

theorem hiX9_number_X9 : ∀ w ∈ wsX90, w ∈ wsX9_number := by decide +kernel
set_option maxHeartbeats 4000000 in
set_option maxRecDepth 100000 in
/-- a number is not read -/
theorem kX9_number_w (l : Launch) (D : va_G) (z : Nat × Nat × Nat) (u0 : Nat) (u1 : Nat) (u2 : Nat) (u3 : Nat) (u4 : Nat) (u5 : Nat) (u6 : Nat) (u7 : Nat) (u8 : Nat) (u9 : Nat) (u10 : Nat) (u11 : Nat) (kn : Nat) (ik : Bool) (ty : Nat) (ta : Nat) (tx : Nat → Nat) (lo : Nat) (hi : Nat) (hty : ty ≤ 60) (hta : ta ≤ 1000) (htx : ∀ j, j < ty → tx j < 65536) (hlo : lo ≤ 1) (hhi : hi ≤ 20) : CM l yX9_number wsX9_number ({ frames := 2, cells := 0, slots := 0, locals := 45 } : Room) D z [.ref u0, .int (nI lo), .int (nI hi)] [(u0, .inr (9, [.ref u1, .ref u2, .ref u3, .ref u4, .ref u5, .ref u6, .int (nI kn), .ref u7, .int (bB ik), .ref u8, .int (nI ty), .ref u9, .int (nI ta), .int (bB true), .ref u10, .ref u11])), (u8, .inl ((TY D)[0].1, 60, .inl (nf tx)))] (fun r_ w_ => ∃ (r9 : Int32), r_ = some (.int r9) ∧ w_ = [(u0, .inr (9, [.ref u1, .ref u2, .ref u3, .ref u4, .ref u5, .ref u6, .int (nI kn), .ref u7, .int (bB ik), .ref u8, .int (nI ty), .ref u9, .int (nI ta), .int (bB true), .ref u10, .ref u11])), (u8, .inl ((TY D)[0].1, 60, .inl (nf tx)))]) 0 0 := by
  refine CM_int (own := RX9) (cc := cX9_number) (maxL := 5) (L0 := [(0, .ref u0), (1, .int (nI lo)), (2, .int (nI hi))]) (by decide) rfl rfl (Nat.le_of_ble_eq_true rfl) rfl (fun X O E => ?_)
  refine g_aload_n O dX9_number_0 0 rfl rfl ?_
  refine g_bipush (x := (nI 48)) O dX9_number_1 (by decide +kernel) ?_
  refine g_iload_n O dX9_number_3 1 rfl rfl ?_
  refine g_iaddN O dX9_number_4 ?_
  refine g_bipush (x := (nI 57)) O dX9_number_5 (by decide +kernel) ?_
  refine g_callV (As := [.int (nI (48 + lo)), .int (nI 57)]) (wr := []) O (kX9_sign l D z u0 u1 u2 u3 u4 u5 u6 u7 u8 u9 u10 u11 kn ik ty ta true tx (48 + lo) 57 (by first | assumption | omega) (by first | assumption | omega) (by first | assumption | omega) (by first | assumption | omega) (by first | assumption | omega)) gX9_number_X9_sign rfl rfl rfl 2 (by decide +kernel) (by decide) (by decide) (q0 := 0) rfl rfl rfl [0, 1] [] rfl (by decide) rfl (by decide) (by decide) rfl rfl (Nat.le_of_ble_eq_true rfl) dX9_number_7 (fun r_1 w_2 hp => ?_)
  obtain ⟨rfl, rfl⟩ := hp
  refine g_eq (st' := [.int (nI (chV tx ty ta))]) (ws' := [(u0, .inr (9, [.ref u1, .ref u2, .ref u3, .ref u4, .ref u5, .ref u6, .int (nI kn), .ref u7, .int (bB ik), .ref u8, .int (nI ty), .ref u9, .int (nI (sgA tx ty ta true (48 + lo) 57)), .int (bB (sgW tx ty ta true (48 + lo) 57)), .ref u10, .ref u11])), (u8, .inl ((TY D)[0].1, 60, .inl (nf tx)))]) rfl rfl rfl ?_
  refine g_eq (ws' := [(u0, .inr (9, [.ref u1, .ref u2, .ref u3, .ref u4, .ref u5, .ref u6, .int (nI kn), .ref u7, .int (bB ik), .ref u8, .int (nI ty), .ref u9, .int (nI ta), .int (bB true), .ref u10, .ref u11])), (u8, .inl ((TY D)[0].1, 60, .inl (nf tx)))]) rfl rfl rfl ?_
  refine g_bipush (x := (nI 48)) O dX9_number_10 (by decide +kernel) ?_
  refine g_isub O dX9_number_12 ?_
  refine g_istore_n (L' := [(0, .ref u0), (1, .int (nI lo)), (2, .int (nI hi)), (3, .int ((nI (chV tx ty ta)) - (nI 48)))]) O dX9_number_13 rfl (by decide) [1, 2, 3, 0] rfl ?_
  refine g_aload_n O dX9_number_14 0 rfl rfl ?_
  refine g_get O hiX9_number_X9 0 rfl rfl 13 (by decide) (by decide +kernel) rfl dX9_number_15 ?_
  refine g_if_neB (tgt := 80) O dX9_number_18 (by decide) (fun c_3 => ?_) (fun c_3 => absurd c_3 (by decide))
  refine g_iconst (x := (nI 0)) O dX9_number_80 (by decide +kernel) ?_
  refine g_istore (L' := [(0, .ref u0), (1, .int (nI lo)), (2, .int (nI hi)), (3, .int ((nI (chV tx ty ta)) - (nI 48))), (4, .int (nI 0))]) O dX9_number_81 (by decide) [1, 2, 3, 4, 0] rfl ?_
  refine g_iload O dX9_number_83 4 rfl ?_
  refine g_if_eqN (tgt := 107) O (by omega) dX9_number_85 (by decide) (fun c_4 => ?_) (fun c_4 => absurd c_4 (by decide))
  refine g_iload_n O dX9_number_107 3 rfl rfl ?_
  exact E 108 _ ((nI (chV tx ty ta)) - (nI 48)) _ dX9_number_108 (⟨_, rfl, rfl⟩)

set_option maxHeartbeats 4000000 in
set_option maxRecDepth 100000 in
/-- a number is read -/
theorem kX9_number_o (l : Launch) (D : va_G) (z : Nat × Nat × Nat) (u0 : Nat) (u1 : Nat) (u2 : Nat) (u3 : Nat) (u4 : Nat) (u5 : Nat) (u6 : Nat) (u7 : Nat) (u8 : Nat) (u9 : Nat) (u10 : Nat) (u11 : Nat) (kn : Nat) (ik : Bool) (ty : Nat) (ta : Nat) (tx : Nat → Nat) (lo : Nat) (hi : Nat) (hty : ty ≤ 60) (hta : ta ≤ 1000) (htx : ∀ j, j < ty → tx j < 65536) (hlo : lo ≤ 1) (hhi : hi ≤ 20) (hh9 : 9 ≤ hi) : CM l yX9_number wsX9_number ({ frames := 2, cells := 0, slots := 0, locals := 45 } : Room) D z [.ref u0, .int (nI lo), .int (nI hi)] [(u0, .inr (9, [.ref u1, .ref u2, .ref u3, .ref u4, .ref u5, .ref u6, .int (nI kn), .ref u7, .int (bB ik), .ref u8, .int (nI ty), .ref u9, .int (nI ta), .int (bB false), .ref u10, .ref u11])), (u8, .inl ((TY D)[0].1, 60, .inl (nf tx)))] (fun r_ w_ => ∃ (r9 : Int32), (∀ v, (rdN tx ty ta lo hi).1 = some v → r9 = nI v) ∧ r_ = some (.int r9) ∧ w_ = [(u0, .inr (9, [.ref u1, .ref u2, .ref u3, .ref u4, .ref u5, .ref u6, .int (nI kn), .ref u7, .int (bB ik), .ref u8, .int (nI ty), .ref u9, .int (nI ((rdN tx ty ta lo hi).2)), .int (bB ((rdN tx ty ta lo hi).1.isNone)), .ref u10, .ref u11])), (u8, .inl ((TY D)[0].1, 60, .inl (nf tx)))]) 0 0 := by
  refine CM_int (own := RX9) (cc := cX9_number) (maxL := 5) (L0 := [(0, .ref u0), (1, .int (nI lo)), (2, .int (nI hi))]) (by decide) rfl rfl (Nat.le_of_ble_eq_true rfl) rfl (fun X O E => ?_)
  refine g_aload_n O dX9_number_0 0 rfl rfl ?_
  refine g_bipush (x := (nI 48)) O dX9_number_1 (by decide +kernel) ?_
  refine g_iload_n O dX9_number_3 1 rfl rfl ?_
  refine g_iaddN O dX9_number_4 ?_
  refine g_bipush (x := (nI 57)) O dX9_number_5 (by decide +kernel) ?_
  refine g_callV (As := [.int (nI (48 + lo)), .int (nI 57)]) (wr := []) O (kX9_sign l D z u0 u1 u2 u3 u4 u5 u6 u7 u8 u9 u10 u11 kn ik ty ta false tx (48 + lo) 57 (by first | assumption | omega) (by first | assumption | omega) (by first | assumption | omega) (by first | assumption | omega) (by first | assumption | omega)) gX9_number_X9_sign rfl rfl rfl 2 (by decide +kernel) (by decide) (by decide) (q0 := 0) rfl rfl rfl [0, 1] [] rfl (by decide) rfl (by decide) (by decide) rfl rfl (Nat.le_of_ble_eq_true rfl) dX9_number_7 (fun r_1 w_2 hp => ?_)
  obtain ⟨rfl, rfl⟩ := hp
  refine g_eq (st' := [.int (nI (chV tx ty ta))]) (ws' := [(u0, .inr (9, [.ref u1, .ref u2, .ref u3, .ref u4, .ref u5, .ref u6, .int (nI kn), .ref u7, .int (bB ik), .ref u8, .int (nI ty), .ref u9, .int (nI (sgA tx ty ta false (48 + lo) 57)), .int (bB (sgW tx ty ta false (48 + lo) 57)), .ref u10, .ref u11])), (u8, .inl ((TY D)[0].1, 60, .inl (nf tx)))]) rfl rfl rfl ?_
  refine g_bipush (x := (nI 48)) O dX9_number_10 (by decide +kernel) ?_
  refine g_isub O dX9_number_12 ?_
  refine g_istore_n (L' := [(0, .ref u0), (1, .int (nI lo)), (2, .int (nI hi)), (3, .int ((nI (chV tx ty ta)) - (nI 48)))]) O dX9_number_13 rfl (by decide) [1, 2, 3, 0] rfl ?_
  refine g_aload_n O dX9_number_14 0 rfl rfl ?_
  refine g_get O hiX9_number_X9 0 rfl rfl 13 (by decide) (by decide +kernel) rfl dX9_number_15 ?_
  refine g_if_neB (tgt := 80) O dX9_number_18 (by decide) (fun c_3 => ?_) (fun c_3 => ?_)
  ·
    have hsg := sg_f c_3
    have he := rdN_n (hi := hi) hlo hsg.1
    refine g_eq (ws' := [(u0, .inr (9, [.ref u1, .ref u2, .ref u3, .ref u4, .ref u5, .ref u6, .int (nI kn), .ref u7, .int (bB ik), .ref u8, .int (nI ty), .ref u9, .int (nI ta), .int (bB true), .ref u10, .ref u11])), (u8, .inl ((TY D)[0].1, 60, .inl (nf tx)))]) rfl rfl (by rw [hsg.2, c_3]) ?_
    refine g_iconst (x := (nI 0)) O dX9_number_80 (by decide +kernel) ?_
    refine g_istore (L' := [(0, .ref u0), (1, .int (nI lo)), (2, .int (nI hi)), (3, .int ((nI (chV tx ty ta)) - (nI 48))), (4, .int (nI 0))]) O dX9_number_81 (by decide) [1, 2, 3, 4, 0] rfl ?_
    refine g_iload O dX9_number_83 4 rfl ?_
    refine g_if_eqN (tgt := 107) O (by omega) dX9_number_85 (by decide) (fun c_4 => ?_) (fun c_4 => absurd c_4 (by decide))
    refine g_iload_n O dX9_number_107 3 rfl rfl ?_
    exact E 108 _ ((nI (chV tx ty ta)) - (nI 48)) _ dX9_number_108 (by rw [he]; exact ⟨_, fun v hv => by cases hv, rfl, rfl⟩)
  ·
    obtain ⟨g1, g2, g3, g4, g5⟩ := sg_t (by omega) c_3
    refine g_eq (ws' := [(u0, .inr (9, [.ref u1, .ref u2, .ref u3, .ref u4, .ref u5, .ref u6, .int (nI kn), .ref u7, .int (bB ik), .ref u8, .int (nI ty), .ref u9, .int (nI (ta + 1)), .int (bB false), .ref u10, .ref u11])), (u8, .inl ((TY D)[0].1, 60, .inl (nf tx)))]) (L' := [(0, .ref u0), (1, .int (nI lo)), (2, .int (nI hi)), (3, .int (nI (tx ta - 48)))]) rfl (by rw [g4, pk_sub (by omega)]) (by rw [g5, c_3]) ?_
    refine g_iload_n O dX9_number_21 3 rfl rfl ?_
    refine g_if_leN (tgt := 80) O (by omega) dX9_number_22 (by decide) (fun c_5 => ?_) (fun c_5 => ?_)
    ·
      have he := rdN_1 (hi := hi) g1 g2 g3 (Or.inl (by omega))
      refine g_iconst (x := (nI 0)) O dX9_number_80 (by decide +kernel) ?_
      refine g_istore (L' := [(0, .ref u0), (1, .int (nI lo)), (2, .int (nI hi)), (3, .int (nI (tx ta - 48))), (4, .int (nI 0))]) O dX9_number_81 (by decide) [1, 2, 3, 4, 0] rfl ?_
      refine g_iload O dX9_number_83 4 rfl ?_
      refine g_if_eqN (tgt := 107) O (by omega) dX9_number_85 (by decide) (fun c_6 => ?_) (fun c_6 => absurd c_6 (by decide))
      refine g_iload_n O dX9_number_107 3 rfl rfl ?_
      exact E 108 _ (nI (tx ta - 48)) _ dX9_number_108 (by rw [he]; exact ⟨_, fun v hv => by cases hv; rfl, rfl, rfl⟩)
    ·
      have h22 := c_5
      refine g_aload_n O dX9_number_25 0 rfl rfl ?_
      refine g_get O hiX9_number_X9 0 rfl rfl 12 (by decide) (by decide +kernel) rfl dX9_number_26 ?_
      refine g_aload_n O dX9_number_29 0 rfl rfl ?_
      refine g_get O hiX9_number_X9 0 rfl rfl 10 (by decide) (by decide +kernel) rfl dX9_number_30 ?_
      refine g_icmp_geN (tgt := 80) O (by omega) (by omega) dX9_number_33 (by decide) (fun c_7 => ?_) (fun c_7 => ?_)
      ·
        have he := rdN_1 (hi := hi) g1 g2 g3 (Or.inr (Or.inl (by omega)))
        refine g_iconst (x := (nI 0)) O dX9_number_80 (by decide +kernel) ?_
        refine g_istore (L' := [(0, .ref u0), (1, .int (nI lo)), (2, .int (nI hi)), (3, .int (nI (tx ta - 48))), (4, .int (nI 0))]) O dX9_number_81 (by decide) [1, 2, 3, 4, 0] rfl ?_
        refine g_iload O dX9_number_83 4 rfl ?_
        refine g_if_eqN (tgt := 107) O (by omega) dX9_number_85 (by decide) (fun c_8 => ?_) (fun c_8 => absurd c_8 (by decide))
        refine g_iload_n O dX9_number_107 3 rfl rfl ?_
        exact E 108 _ (nI (tx ta - 48)) _ dX9_number_108 (by rw [he]; exact ⟨_, fun v hv => by cases hv; rfl, rfl, rfl⟩)
      ·
        have hn1 : ta + 1 < ty := by omega
        have htx1 := htx (ta + 1) hn1
        refine g_aload_n O dX9_number_36 0 rfl rfl ?_
        refine g_get O hiX9_number_X9 0 rfl rfl 9 (by decide) (by decide +kernel) rfl dX9_number_37 ?_
        refine g_aload_n O dX9_number_40 0 rfl rfl ?_
        refine g_get O hiX9_number_X9 0 rfl rfl 12 (by decide) (by decide +kernel) rfl dX9_number_41 ?_
        refine g_ialdN O 1 rfl (by omega) (by omega) dX9_number_44 ?_
        refine g_bipush (x := (nI 48)) O dX9_number_45 (by decide +kernel) ?_
        refine g_bipush (x := (nI 57)) O dX9_number_47 (by decide +kernel) ?_
        refine g_callS (As := [.int (nI (tx (ta + 1))), .int (nI 48), .int (nI 57)]) (wr := [(u0, .inr (9, [.ref u1, .ref u2, .ref u3, .ref u4, .ref u5, .ref u6, .int (nI kn), .ref u7, .int (bB ik), .ref u8, .int (nI ty), .ref u9, .int (nI (ta + 1)), .int (bB false), .ref u10, .ref u11])), (u8, .inl ((TY D)[0].1, 60, .inl (nf tx)))]) O (kX9_in l D z (nI (tx (ta + 1))) (nI 48) (nI 57) ) gX9_number_X9_in rfl rfl rfl 3 (by decide +kernel) (by decide) (by decide) [] [0, 1] rfl (by decide) rfl (by decide) (by decide) rfl rfl (Nat.le_of_ble_eq_true rfl) dX9_number_49 (fun r_9 w_10 hp => ?_)
        obtain ⟨rfl, rfl⟩ := hp
        refine g_eq (st' := [.int (bB (inI (nI (tx (ta + 1))) (nI 48) (nI 57)))]) (ws' := [(u0, .inr (9, [.ref u1, .ref u2, .ref u3, .ref u4, .ref u5, .ref u6, .int (nI kn), .ref u7, .int (bB ik), .ref u8, .int (nI ty), .ref u9, .int (nI (ta + 1)), .int (bB false), .ref u10, .ref u11])), (u8, .inl ((TY D)[0].1, 60, .inl (nf tx)))]) rfl rfl rfl ?_
        refine g_eq (st' := [.int (bB (decide (48 ≤ tx (ta + 1) ∧ tx (ta + 1) ≤ 57)))]) (by rw [inI_N (by omega) (by decide) (by decide)]) rfl rfl ?_
        refine g_if_eqB (tgt := 80) O dX9_number_52 (by decide) (fun c_11 => ?_) (fun c_11 => ?_)
        ·
          have he := rdN_1 (hi := hi) g1 g2 g3 (Or.inr (Or.inl (fun h => (of_decide_eq_false c_11) h.2)))
          refine g_iconst (x := (nI 0)) O dX9_number_80 (by decide +kernel) ?_
          refine g_istore (L' := [(0, .ref u0), (1, .int (nI lo)), (2, .int (nI hi)), (3, .int (nI (tx ta - 48))), (4, .int (nI 0))]) O dX9_number_81 (by decide) [1, 2, 3, 4, 0] rfl ?_
          refine g_iload O dX9_number_83 4 rfl ?_
          refine g_if_eqN (tgt := 107) O (by omega) dX9_number_85 (by decide) (fun c_12 => ?_) (fun c_12 => absurd c_12 (by decide))
          refine g_iload_n O dX9_number_107 3 rfl rfl ?_
          exact E 108 _ (nI (tx ta - 48)) _ dX9_number_108 (by rw [he]; exact ⟨_, fun v hv => by cases hv; rfl, rfl, rfl⟩)
        ·
          have hn2 := of_decide_eq_true c_11
          refine g_bipush (x := (nI 10)) O dX9_number_55 (by decide +kernel) ?_
          refine g_iload_n O dX9_number_57 3 rfl rfl ?_
          refine g_imulN O dX9_number_58 ?_
          refine g_aload_n O dX9_number_59 0 rfl rfl ?_
          refine g_get O hiX9_number_X9 0 rfl rfl 9 (by decide) (by decide +kernel) rfl dX9_number_60 ?_
          refine g_aload_n O dX9_number_63 0 rfl rfl ?_
          refine g_get O hiX9_number_X9 0 rfl rfl 12 (by decide) (by decide +kernel) rfl dX9_number_64 ?_
          refine g_ialdN O 1 rfl (by omega) (by omega) dX9_number_67 ?_
          refine g_iaddN O dX9_number_68 ?_
          refine g_bipush (x := (nI 48)) O dX9_number_69 (by decide +kernel) ?_
          refine g_isubN O (by omega) dX9_number_71 ?_
          refine g_iload_n O dX9_number_72 2 rfl rfl ?_
          refine g_icmp_gtN (tgt := 80) O (by omega) (by omega) dX9_number_73 (by decide) (fun c_13 => ?_) (fun c_13 => ?_)
          ·
            have he := rdN_1 (hi := hi) g1 g2 g3 (Or.inr (Or.inr (by omega)))
            refine g_iconst (x := (nI 0)) O dX9_number_80 (by decide +kernel) ?_
            refine g_istore (L' := [(0, .ref u0), (1, .int (nI lo)), (2, .int (nI hi)), (3, .int (nI (tx ta - 48))), (4, .int (nI 0))]) O dX9_number_81 (by decide) [1, 2, 3, 4, 0] rfl ?_
            refine g_iload O dX9_number_83 4 rfl ?_
            refine g_if_eqN (tgt := 107) O (by omega) dX9_number_85 (by decide) (fun c_14 => ?_) (fun c_14 => absurd c_14 (by decide))
            refine g_iload_n O dX9_number_107 3 rfl rfl ?_
            exact E 108 _ (nI (tx ta - 48)) _ dX9_number_108 (by rw [he]; exact ⟨_, fun v hv => by cases hv; rfl, rfl, rfl⟩)
          ·
            have he := rdN_2 (hi := hi) g1 g2 g3 (by omega) ⟨hn1, hn2⟩ (by omega)
            refine g_iconst (x := (nI 1)) O dX9_number_76 (by decide +kernel) ?_
            refine g_goto (tgt := 81) O dX9_number_77 (by decide) ?_
            refine g_istore (L' := [(0, .ref u0), (1, .int (nI lo)), (2, .int (nI hi)), (3, .int (nI (tx ta - 48))), (4, .int (nI 1))]) O dX9_number_81 (by decide) [1, 2, 3, 4, 0] rfl ?_
            refine g_iload O dX9_number_83 4 rfl ?_
            refine g_if_eqN (tgt := 107) O (by omega) dX9_number_85 (by decide) (fun c_15 => absurd c_15 (by decide)) (fun c_15 => ?_)
            refine g_bipush (x := (nI 10)) O dX9_number_88 (by decide +kernel) ?_
            refine g_iload_n O dX9_number_90 3 rfl rfl ?_
            refine g_imulN O dX9_number_91 ?_
            refine g_aload_n O dX9_number_92 0 rfl rfl ?_
            refine g_bipush (x := (nI 48)) O dX9_number_93 (by decide +kernel) ?_
            refine g_bipush (x := (nI 57)) O dX9_number_95 (by decide +kernel) ?_
            refine g_callV (As := [.int (nI 48), .int (nI 57)]) (wr := []) O (kX9_sign l D z u0 u1 u2 u3 u4 u5 u6 u7 u8 u9 u10 u11 kn ik ty (ta + 1) false tx 48 57 (by first | assumption | omega) (by first | assumption | omega) (by first | assumption | omega) (by first | assumption | omega) (by first | assumption | omega)) gX9_number_X9_sign rfl rfl rfl 2 (by decide +kernel) (by decide) (by decide) (q0 := 0) rfl rfl rfl [0, 1] [] rfl (by decide) rfl (by decide) (by decide) rfl rfl (Nat.le_of_ble_eq_true rfl) dX9_number_97 (fun r_16 w_17 hp => ?_)
            obtain ⟨rfl, rfl⟩ := hp
            refine g_eq (st' := [.int (nI (chV tx ty (ta + 1))), .int (nI (10 * (tx ta - 48)))]) (ws' := [(u0, .inr (9, [.ref u1, .ref u2, .ref u3, .ref u4, .ref u5, .ref u6, .int (nI kn), .ref u7, .int (bB ik), .ref u8, .int (nI ty), .ref u9, .int (nI (sgA tx ty (ta + 1) false 48 57)), .int (bB (sgW tx ty (ta + 1) false 48 57)), .ref u10, .ref u11])), (u8, .inl ((TY D)[0].1, 60, .inl (nf tx)))]) rfl rfl rfl ?_
            obtain ⟨w1, w2, w3⟩ := sg_ok (lo := 48) (hi := 57) hn1 hn2.1 hn2.2
            refine g_eq (st' := [.int (nI (tx (ta + 1))), .int (nI (10 * (tx ta - 48)))]) (ws' := [(u0, .inr (9, [.ref u1, .ref u2, .ref u3, .ref u4, .ref u5, .ref u6, .int (nI kn), .ref u7, .int (bB ik), .ref u8, .int (nI ty), .ref u9, .int (nI (ta + 1 + 1)), .int (bB false), .ref u10, .ref u11])), (u8, .inl ((TY D)[0].1, 60, .inl (nf tx)))]) (by rw [w3]) rfl (by rw [w1, w2]) ?_
            refine g_iaddN O dX9_number_100 ?_
            refine g_bipush (x := (nI 48)) O dX9_number_101 (by decide +kernel) ?_
            refine g_isubN O (by omega) dX9_number_103 ?_
            refine g_goto (tgt := 108) O dX9_number_104 (by decide) ?_
            exact E 108 _ (nI (((10 * (tx ta - 48)) + (tx (ta + 1))) - 48)) _ dX9_number_108 (by rw [he]; exact ⟨_, fun v hv => by cases hv; congr 1; omega, rfl, rfl⟩)

theorem hiX9_go_X9 : ∀ w ∈ wsX90, w ∈ wsX9_go := by decide +kernel
set_option maxHeartbeats 4000000 in
set_option maxRecDepth 100000 in
/-- the bowings of a text -/
theorem kX9_go_f (l : Launch) (D : va_G) (z : Nat × Nat × Nat) (u0 : Nat) (u1 : Nat) (u2 : Nat) (u3 : Nat) (u4 : Nat) (u5 : Nat) (u6 : Nat) (u7 : Nat) (u8 : Nat) (u9 : Nat) (u10 : Nat) (u11 : Nat) (kn : Nat) (ik : Bool) (ty : Nat) (ta : Nat) (iw : Bool) (tx : Nat → Nat) (fs : Nat → Nat) (fa : Nat → Nat) (fk : Nat → Nat) (hty : ty ≤ 60) (htx : ∀ j, j < ty → tx j < 65536) : CM l yX9_go wsX9_go ({ frames := 3, cells := 0, slots := 0, locals := 69 } : Room) D z [.ref u0, .int (bB false)] [(u0, .inr (9, [.ref u1, .ref u2, .ref u3, .ref u4, .ref u5, .ref u6, .int (nI kn), .ref u7, .int (bB ik), .ref u8, .int (nI ty), .ref u9, .int (nI ta), .int (bB iw), .ref u10, .ref u11])), (u8, .inl ((TY D)[0].1, 60, .inl (nf tx)))] (fun r_ w_ => ∃ (r9 : Int32), ((rdP tx ty 60 0 fs fa fk 0).1 = true → r9 = nI (rdP tx ty 60 0 fs fa fk 0).2.2.2.2.2) ∧ r_ = some (.int r9) ∧ w_ = [(u0, .inr (9, [.ref u1, .ref u2, .ref u3, .ref u4, .ref u5, .ref u6, .int (nI kn), .ref u7, .int (bB ik), .ref u8, .int (nI ty), .ref u9, .int (nI ((rdP tx ty 60 0 fs fa fk 0).2.1)), .int (bB (!(rdP tx ty 60 0 fs fa fk 0).1)), .ref u10, .ref u11])), (u8, .inl ((TY D)[0].1, 60, .inl (nf tx)))]) 0 0 := by
  refine CM_int (own := RX9) (cc := cX9_go) (maxL := 11) (L0 := [(0, .ref u0), (1, .int (bB false))]) (by decide) rfl rfl (Nat.le_of_ble_eq_true rfl) rfl (fun X O E => ?_)
  refine g_aload_n O dX9_go_0 0 rfl rfl ?_
  refine g_iconst (x := (nI 0)) O dX9_go_1 (by decide +kernel) ?_
  refine g_put (ws' := [(u0, .inr (9, [.ref u1, .ref u2, .ref u3, .ref u4, .ref u5, .ref u6, .int (nI kn), .ref u7, .int (bB ik), .ref u8, .int (nI ty), .ref u9, .int (nI 0), .int (bB iw), .ref u10, .ref u11])), (u8, .inl ((TY D)[0].1, 60, .inl (nf tx)))]) O hiX9_go_X9 tyX9 tyX9_ok nmX9 0 rfl rfl 12 (by decide) (by decide +kernel) rfl (tyX9_ok 12 (by decide)) rfl rfl (Nat.le_of_ble_eq_true rfl) dX9_go_2 rfl ?_
  refine g_aload_n O dX9_go_5 0 rfl rfl ?_
  refine g_iconst (x := (nI 0)) O dX9_go_6 (by decide +kernel) ?_
  refine g_put (ws' := [(u0, .inr (9, [.ref u1, .ref u2, .ref u3, .ref u4, .ref u5, .ref u6, .int (nI kn), .ref u7, .int (bB ik), .ref u8, .int (nI ty), .ref u9, .int (nI 0), .int (nI 0), .ref u10, .ref u11])), (u8, .inl ((TY D)[0].1, 60, .inl (nf tx)))]) O hiX9_go_X9 tyX9 tyX9_ok nmX9 0 rfl rfl 13 (by decide) (by decide +kernel) rfl (tyX9_ok 13 (by decide)) (by decide +kernel) (by decide +kernel) (Nat.le_of_ble_eq_true rfl) dX9_go_7 rfl ?_
  refine g_iconst (x := (nI 0)) O dX9_go_10 (by decide +kernel) ?_
  refine g_istore_n (L' := [(0, .ref u0), (1, .int (bB false)), (2, .int (nI 0))]) O dX9_go_11 rfl (by decide) [1, 2, 0] rfl ?_
  refine g_iconst (x := (nI 1)) O dX9_go_12 (by decide +kernel) ?_
  refine g_istore_n (L' := [(0, .ref u0), (1, .int (bB false)), (2, .int (nI 0)), (3, .int (nI 1))]) O dX9_go_13 rfl (by decide) [1, 2, 3, 0] rfl ?_
  refine g_iload_n O dX9_go_14 3 rfl rfl ?_
  refine g_if_eqN (tgt := 294) O (by omega) dX9_go_15 (by decide) (fun c_1 => absurd c_1 (by decide)) (fun c_1 => ?_)
  have J18 : ∀ (n_ : Nat), ∀ (f_ : Nat) (c_ : Nat) (m_ : Nat) (Fs : Nat → Nat) (Fa : Nat → Nat) (Fk : Nat → Nat) (hcc : c_ ≤ ty) (hfu : ty < 3 * f_ + c_) (hR : rdP tx ty f_ c_ Fs Fa Fk m_ = (rdP tx ty 60 0 fs fa fk 0)), f_ < n_ → G X 0 0 18 [(0, .ref u0), (1, .int (bB false)), (2, .int (nI m_)), (3, .int (nI 1))] [] [(u0, .inr (9, [.ref u1, .ref u2, .ref u3, .ref u4, .ref u5, .ref u6, .int (nI kn), .ref u7, .int (bB ik), .ref u8, .int (nI ty), .ref u9, .int (nI c_), .int (bB false), .ref u10, .ref u11])), (u8, .inl ((TY D)[0].1, 60, .inl (nf tx)))] := by
    intro n_
    induction n_ with
    | zero => intro f_ c_ m_ Fs Fa Fk hcc hfu hR hm_; exact absurd hm_ (Nat.not_lt_zero _)
    | succ n_ ih_ =>
      intro f_ c_ m_ Fs Fa Fk hcc hfu hR hm_
      refine g_aload_n O dX9_go_18 0 rfl rfl ?_
      have J90 : G X 0 0 90 [(0, .ref u0), (1, .int (bB false)), (2, .int (nI m_)), (3, .int (nI 1))] [.int (orN (sdO (chO tx ty c_)))] [(u0, .inr (9, [.ref u1, .ref u2, .ref u3, .ref u4, .ref u5, .ref u6, .int (nI kn), .ref u7, .int (bB ik), .ref u8, .int (nI ty), .ref u9, .int (nI c_), .int (bB false), .ref u10, .ref u11])), (u8, .inl ((TY D)[0].1, 60, .inl (nf tx)))] := by
        cases hsd : sdO (chO tx ty c_) with
        | none =>
          refine g_eq (st' := [.int (-5)]) rfl rfl rfl ?_
          have hB := rdB_0 hsd
          refine g_istore (L' := [(0, .ref u0), (1, .int (bB false)), (2, .int (nI m_)), (3, .int (nI 1)), (5, .int (-5))]) O dX9_go_90 (by decide) [1, 2, 3, 4, 0] rfl ?_
          refine g_aload_n O dX9_go_92 0 rfl rfl ?_
          refine g_aload_n O dX9_go_93 0 rfl rfl ?_
          refine g_get O hiX9_go_X9 0 rfl rfl 13 (by decide) (by decide +kernel) rfl dX9_go_94 ?_
          refine g_if_neB (tgt := 107) O dX9_go_97 (by decide) (fun c_2 => absurd c_2 (by decide)) (fun c_2 => ?_)
          refine g_iload O dX9_go_100 4 rfl ?_
          refine g_bipush (x := (-5)) O dX9_go_102 (by decide +kernel) ?_
          refine g_icmp_ne (tgt := 111) O dX9_go_104 (by decide) (fun c_3 => absurd c_3 (fun h => h rfl)) (fun c_3 => ?_)
          refine g_iconst (x := (nI 1)) O dX9_go_107 (by decide +kernel) ?_
          refine g_goto (tgt := 112) O dX9_go_108 (by decide) ?_
          refine g_eq (st' := [.int (bB true), .ref u0]) rfl rfl rfl ?_
          refine g_put (ws' := [(u0, .inr (9, [.ref u1, .ref u2, .ref u3, .ref u4, .ref u5, .ref u6, .int (nI kn), .ref u7, .int (bB ik), .ref u8, .int (nI ty), .ref u9, .int (nI c_), .int (bB true), .ref u10, .ref u11])), (u8, .inl ((TY D)[0].1, 60, .inl (nf tx)))]) O hiX9_go_X9 tyX9 tyX9_ok nmX9 0 rfl rfl 13 (by decide) (by decide +kernel) rfl (tyX9_ok 13 (by decide)) (bB_nn _) (bB_fit _) (Nat.le_of_ble_eq_true rfl) dX9_go_112 rfl ?_
          refine g_aload_n O dX9_go_115 0 rfl rfl ?_
          refine g_dup O dX9_go_116 rfl ?_
          refine g_get O hiX9_go_X9 0 rfl rfl 12 (by decide) (by decide +kernel) rfl dX9_go_117 ?_
          refine g_aload_n O dX9_go_120 0 rfl rfl ?_
          refine g_get O hiX9_go_X9 0 rfl rfl 13 (by decide) (by decide +kernel) rfl dX9_go_121 ?_
          refine g_if_eqB (tgt := 131) O dX9_go_124 (by decide) (fun c_4 => absurd c_4 (by decide)) (fun c_4 => ?_)
          refine g_iconst (x := (nI 0)) O dX9_go_127 (by decide +kernel) ?_
          refine g_goto (tgt := 132) O dX9_go_128 (by decide) ?_
          refine g_iaddN O dX9_go_132 ?_
          refine g_put (ws' := [(u0, .inr (9, [.ref u1, .ref u2, .ref u3, .ref u4, .ref u5, .ref u6, .int (nI kn), .ref u7, .int (bB ik), .ref u8, .int (nI ty), .ref u9, .int (nI (c_ + 0)), .int (bB true), .ref u10, .ref u11])), (u8, .inl ((TY D)[0].1, 60, .inl (nf tx)))]) O hiX9_go_X9 tyX9 tyX9_ok nmX9 0 rfl rfl 12 (by decide) (by decide +kernel) rfl (tyX9_ok 12 (by decide)) rfl rfl (Nat.le_of_ble_eq_true rfl) dX9_go_133 rfl ?_
          refine g_aload_n O dX9_go_136 0 rfl rfl ?_
          refine g_iconst (x := (nI 0)) O dX9_go_137 (by decide +kernel) ?_
          refine g_bipush (x := (nI 11)) O dX9_go_138 (by decide +kernel) ?_
          refine g_callV (As := [.int (nI 0), .int (nI 11)]) (wr := []) O (kX9_number_w l D z u0 u1 u2 u3 u4 u5 u6 u7 u8 u9 u10 u11 kn ik ty (c_ + 0) tx 0 11 (by first | assumption | omega) (by first | assumption | omega) (by first | assumption | omega) (by first | assumption | omega) (by first | assumption | omega)) gX9_go_X9_number rfl rfl rfl 2 (by decide +kernel) (by decide) (by decide) (q0 := 0) rfl rfl rfl [0, 1] [] rfl (by decide) rfl (by decide) (by decide) rfl rfl (Nat.le_of_ble_eq_true rfl) dX9_go_140 (fun r_5 w_6 hp => ?_)
          obtain ⟨r9_7, rfl, rfl⟩ := hp
          refine g_eq (st' := [.int r9_7]) (ws' := [(u0, .inr (9, [.ref u1, .ref u2, .ref u3, .ref u4, .ref u5, .ref u6, .int (nI kn), .ref u7, .int (bB ik), .ref u8, .int (nI ty), .ref u9, .int (nI (c_ + 0)), .int (bB true), .ref u10, .ref u11])), (u8, .inl ((TY D)[0].1, 60, .inl (nf tx)))]) rfl rfl rfl ?_
          refine g_istore (L' := [(0, .ref u0), (1, .int (bB false)), (2, .int (nI m_)), (3, .int (nI 1)), (5, .int (-5)), (6, .int r9_7)]) O dX9_go_143 (by decide) [1, 2, 3, 4, 5, 0] rfl ?_
          refine g_aload_n O dX9_go_145 0 rfl rfl ?_
          refine g_get O hiX9_go_X9 0 rfl rfl 13 (by decide) (by decide +kernel) rfl dX9_go_146 ?_
          refine g_if_neB (tgt := 181) O dX9_go_149 (by decide) (fun c_8 => ?_) (fun c_8 => absurd c_8 (by decide))
          refine g_iconst (x := (nI 0)) O dX9_go_181 (by decide +kernel) ?_
          refine g_istore (L' := [(0, .ref u0), (1, .int (bB false)), (2, .int (nI m_)), (3, .int (nI 1)), (5, .int (-5)), (6, .int r9_7), (7, .int (nI 0))]) O dX9_go_182 (by decide) [1, 2, 3, 4, 5, 6, 0] rfl ?_
          refine g_iload O dX9_go_184 6 rfl ?_
          refine g_if_eqN (tgt := 200) O (by omega) dX9_go_186 (by decide) (fun c_9 => ?_) (fun c_9 => absurd c_9 (by decide))
          refine g_iconst (x := (nI 0)) O dX9_go_200 (by decide +kernel) ?_
          refine g_istore (L' := [(0, .ref u0), (1, .int (bB false)), (2, .int (nI m_)), (3, .int (nI 1)), (5, .int (-5)), (6, .int r9_7), (7, .int (nI 0)), (8, .int (nI 0))]) O dX9_go_201 (by decide) [1, 2, 3, 4, 5, 6, 7, 0] rfl ?_
          refine g_iload O dX9_go_203 6 rfl ?_
          refine g_if_eqN (tgt := 218) O (by omega) dX9_go_205 (by decide) (fun c_10 => ?_) (fun c_10 => absurd c_10 (by decide))
          refine g_iconst (x := (nI 1)) O dX9_go_218 (by decide +kernel) ?_
          refine g_istore (L' := [(0, .ref u0), (1, .int (bB false)), (2, .int (nI m_)), (3, .int (nI 1)), (5, .int (-5)), (6, .int r9_7), (7, .int (nI 0)), (8, .int (nI 0)), (9, .int (nI 1))]) O dX9_go_219 (by decide) [1, 2, 3, 4, 5, 6, 7, 8, 0] rfl ?_
          refine g_iload_n O dX9_go_221 1 rfl rfl ?_
          refine g_if_eqB (tgt := 237) O dX9_go_222 (by decide) (fun c_11 => ?_) (fun c_11 => absurd c_11 (by decide))
          have he := rdP_B0 (f := f_ - 1) (n := m_) (fs := Fs) (fa := Fa) (fk := Fk) hB
          rw [show f_ - 1 + 1 = f_ by omega, hR] at he
          refine g_iincN (L' := [(0, .ref u0), (1, .int (bB false)), (2, .int (nI (m_ + 1))), (3, .int (nI 1)), (5, .int (-5)), (6, .int r9_7), (7, .int (nI 0)), (8, .int (nI 0)), (9, .int (nI 1))]) O dX9_go_237 2 rfl (by decide) [1, 2, 0, 3, 4, 5, 6, 7, 8] rfl ?_
          refine g_aload_n O dX9_go_240 0 rfl rfl ?_
          refine g_get O hiX9_go_X9 0 rfl rfl 13 (by decide) (by decide +kernel) rfl dX9_go_241 ?_
          refine g_if_neB (tgt := 262) O dX9_go_244 (by decide) (fun c_12 => ?_) (fun c_12 => absurd c_12 (by decide))
          refine g_iconst (x := (nI 0)) O dX9_go_262 (by decide +kernel) ?_
          refine g_istore_n (L' := [(0, .ref u0), (1, .int (bB false)), (2, .int (nI (m_ + 1))), (3, .int (nI 0)), (5, .int (-5)), (6, .int r9_7), (7, .int (nI 0)), (8, .int (nI 0)), (9, .int (nI 1))]) O dX9_go_263 rfl (by decide) [1, 2, 3, 0, 4, 5, 6, 7, 8] rfl ?_
          refine g_iload_n O dX9_go_264 3 rfl rfl ?_
          refine g_if_eqN (tgt := 291) O (by omega) dX9_go_265 (by decide) (fun c_13 => ?_) (fun c_13 => absurd c_13 (by decide))
          refine g_goto (tgt := 14) O dX9_go_291 (by decide) ?_
          refine g_iload_n O dX9_go_14 3 rfl rfl ?_
          refine g_if_eqN (tgt := 294) O (by omega) dX9_go_15 (by decide) (fun c_14 => ?_) (fun c_14 => absurd c_14 (by decide))
          refine g_iload_n O dX9_go_294 2 rfl rfl ?_
          exact E 295 _ (nI (m_ + 1)) _ dX9_go_295 (by rw [he]; first | exact ⟨_, fun h => by cases h, rfl, rfl⟩ | exact ⟨_, fun _ => rfl, rfl, rfl⟩)
        | some sd =>
          have hs4 := sdO_lt hsd
          have hcl : c_ < ty := by by_cases h : c_ < ty; exact h; (rw [chO_n h] at hsd; cases hsd)
          refine g_eq (st' := [.int (nI sd)]) rfl rfl rfl ?_
          refine g_istore (L' := [(0, .ref u0), (1, .int (bB false)), (2, .int (nI m_)), (3, .int (nI 1)), (5, .int (nI sd))]) O dX9_go_90 (by decide) [1, 2, 3, 4, 0] rfl ?_
          refine g_aload_n O dX9_go_92 0 rfl rfl ?_
          refine g_aload_n O dX9_go_93 0 rfl rfl ?_
          refine g_get O hiX9_go_X9 0 rfl rfl 13 (by decide) (by decide +kernel) rfl dX9_go_94 ?_
          refine g_if_neB (tgt := 107) O dX9_go_97 (by decide) (fun c_15 => absurd c_15 (by decide)) (fun c_15 => ?_)
          refine g_iload O dX9_go_100 4 rfl ?_
          refine g_bipush (x := (-5)) O dX9_go_102 (by decide +kernel) ?_
          refine g_icmp_ne (tgt := 111) O dX9_go_104 (by decide) (fun c_16 => ?_) (fun c_16 => absurd c_16 (fun h => h (fun e => by have h2 := (nI_toInt (n := sd) (by omega)).symm.trans (congrArg Int32.toInt e); have h3 : (-5 : Int32).toInt = -5 := by decide +kernel; rw [h3] at h2; omega)))
          refine g_iconst (x := (nI 0)) O dX9_go_111 (by decide +kernel) ?_
          refine g_eq (st' := [.int (bB false), .ref u0]) rfl rfl rfl ?_
          refine g_put (ws' := [(u0, .inr (9, [.ref u1, .ref u2, .ref u3, .ref u4, .ref u5, .ref u6, .int (nI kn), .ref u7, .int (bB ik), .ref u8, .int (nI ty), .ref u9, .int (nI c_), .int (bB false), .ref u10, .ref u11])), (u8, .inl ((TY D)[0].1, 60, .inl (nf tx)))]) O hiX9_go_X9 tyX9 tyX9_ok nmX9 0 rfl rfl 13 (by decide) (by decide +kernel) rfl (tyX9_ok 13 (by decide)) (bB_nn _) (bB_fit _) (Nat.le_of_ble_eq_true rfl) dX9_go_112 rfl ?_
          refine g_aload_n O dX9_go_115 0 rfl rfl ?_
          refine g_dup O dX9_go_116 rfl ?_
          refine g_get O hiX9_go_X9 0 rfl rfl 12 (by decide) (by decide +kernel) rfl dX9_go_117 ?_
          refine g_aload_n O dX9_go_120 0 rfl rfl ?_
          refine g_get O hiX9_go_X9 0 rfl rfl 13 (by decide) (by decide +kernel) rfl dX9_go_121 ?_
          refine g_if_eqB (tgt := 131) O dX9_go_124 (by decide) (fun c_17 => ?_) (fun c_17 => absurd c_17 (by decide))
          refine g_iconst (x := (nI 1)) O dX9_go_131 (by decide +kernel) ?_
          refine g_iaddN O dX9_go_132 ?_
          refine g_put (ws' := [(u0, .inr (9, [.ref u1, .ref u2, .ref u3, .ref u4, .ref u5, .ref u6, .int (nI kn), .ref u7, .int (bB ik), .ref u8, .int (nI ty), .ref u9, .int (nI (c_ + 1)), .int (bB false), .ref u10, .ref u11])), (u8, .inl ((TY D)[0].1, 60, .inl (nf tx)))]) O hiX9_go_X9 tyX9 tyX9_ok nmX9 0 rfl rfl 12 (by decide) (by decide +kernel) rfl (tyX9_ok 12 (by decide)) rfl rfl (Nat.le_of_ble_eq_true rfl) dX9_go_133 rfl ?_
          refine g_aload_n O dX9_go_136 0 rfl rfl ?_
          refine g_iconst (x := (nI 0)) O dX9_go_137 (by decide +kernel) ?_
          refine g_bipush (x := (nI 11)) O dX9_go_138 (by decide +kernel) ?_
          refine g_callV (As := [.int (nI 0), .int (nI 11)]) (wr := []) O (kX9_number_o l D z u0 u1 u2 u3 u4 u5 u6 u7 u8 u9 u10 u11 kn ik ty (c_ + 1) tx 0 11 (by first | assumption | omega) (by first | assumption | omega) (by first | assumption | omega) (by first | assumption | omega) (by first | assumption | omega) (by first | assumption | omega)) gX9_go_X9_number rfl rfl rfl 2 (by decide +kernel) (by decide) (by decide) (q0 := 0) rfl rfl rfl [0, 1] [] rfl (by decide) rfl (by decide) (by decide) rfl rfl (Nat.le_of_ble_eq_true rfl) dX9_go_140 (fun r_18 w_19 hp => ?_)
          obtain ⟨r9_20, hr9_21, rfl, rfl⟩ := hp
          refine g_eq (st' := [.int r9_20]) (ws' := [(u0, .inr (9, [.ref u1, .ref u2, .ref u3, .ref u4, .ref u5, .ref u6, .int (nI kn), .ref u7, .int (bB ik), .ref u8, .int (nI ty), .ref u9, .int (nI ((rdN tx ty (c_ + 1) 0 11).2)), .int (bB ((rdN tx ty (c_ + 1) 0 11).1.isNone)), .ref u10, .ref u11])), (u8, .inl ((TY D)[0].1, 60, .inl (nf tx)))]) rfl rfl rfl ?_
          cases hna : (rdN tx ty (c_ + 1) 0 11).1 with
          | none =>
            have hB := rdB_1 hsd (show (rdN tx ty (c_ + 1) 0 11) = (none, (rdN tx ty (c_ + 1) 0 11).2) from Prod.ext hna rfl)
            refine g_eq (ws' := [(u0, .inr (9, [.ref u1, .ref u2, .ref u3, .ref u4, .ref u5, .ref u6, .int (nI kn), .ref u7, .int (bB ik), .ref u8, .int (nI ty), .ref u9, .int (nI ((rdN tx ty (c_ + 1) 0 11).2)), .int (bB true), .ref u10, .ref u11])), (u8, .inl ((TY D)[0].1, 60, .inl (nf tx)))]) rfl rfl rfl ?_
            refine g_istore (L' := [(0, .ref u0), (1, .int (bB false)), (2, .int (nI m_)), (3, .int (nI 1)), (5, .int (nI sd)), (6, .int r9_20)]) O dX9_go_143 (by decide) [1, 2, 3, 4, 5, 0] rfl ?_
            refine g_aload_n O dX9_go_145 0 rfl rfl ?_
            refine g_get O hiX9_go_X9 0 rfl rfl 13 (by decide) (by decide +kernel) rfl dX9_go_146 ?_
            refine g_if_neB (tgt := 181) O dX9_go_149 (by decide) (fun c_22 => ?_) (fun c_22 => absurd c_22 (by decide))
            refine g_iconst (x := (nI 0)) O dX9_go_181 (by decide +kernel) ?_
            refine g_istore (L' := [(0, .ref u0), (1, .int (bB false)), (2, .int (nI m_)), (3, .int (nI 1)), (5, .int (nI sd)), (6, .int r9_20), (7, .int (nI 0))]) O dX9_go_182 (by decide) [1, 2, 3, 4, 5, 6, 0] rfl ?_
            refine g_iload O dX9_go_184 6 rfl ?_
            refine g_if_eqN (tgt := 200) O (by omega) dX9_go_186 (by decide) (fun c_23 => ?_) (fun c_23 => absurd c_23 (by decide))
            refine g_iconst (x := (nI 0)) O dX9_go_200 (by decide +kernel) ?_
            refine g_istore (L' := [(0, .ref u0), (1, .int (bB false)), (2, .int (nI m_)), (3, .int (nI 1)), (5, .int (nI sd)), (6, .int r9_20), (7, .int (nI 0)), (8, .int (nI 0))]) O dX9_go_201 (by decide) [1, 2, 3, 4, 5, 6, 7, 0] rfl ?_
            refine g_iload O dX9_go_203 6 rfl ?_
            refine g_if_eqN (tgt := 218) O (by omega) dX9_go_205 (by decide) (fun c_24 => ?_) (fun c_24 => absurd c_24 (by decide))
            refine g_iconst (x := (nI 1)) O dX9_go_218 (by decide +kernel) ?_
            refine g_istore (L' := [(0, .ref u0), (1, .int (bB false)), (2, .int (nI m_)), (3, .int (nI 1)), (5, .int (nI sd)), (6, .int r9_20), (7, .int (nI 0)), (8, .int (nI 0)), (9, .int (nI 1))]) O dX9_go_219 (by decide) [1, 2, 3, 4, 5, 6, 7, 8, 0] rfl ?_
            refine g_iload_n O dX9_go_221 1 rfl rfl ?_
            refine g_if_eqB (tgt := 237) O dX9_go_222 (by decide) (fun c_25 => ?_) (fun c_25 => absurd c_25 (by decide))
            have he := rdP_B0 (f := f_ - 1) (n := m_) (fs := Fs) (fa := Fa) (fk := Fk) hB
            rw [show f_ - 1 + 1 = f_ by omega, hR] at he
            refine g_iincN (L' := [(0, .ref u0), (1, .int (bB false)), (2, .int (nI (m_ + 1))), (3, .int (nI 1)), (5, .int (nI sd)), (6, .int r9_20), (7, .int (nI 0)), (8, .int (nI 0)), (9, .int (nI 1))]) O dX9_go_237 2 rfl (by decide) [1, 2, 0, 3, 4, 5, 6, 7, 8] rfl ?_
            refine g_aload_n O dX9_go_240 0 rfl rfl ?_
            refine g_get O hiX9_go_X9 0 rfl rfl 13 (by decide) (by decide +kernel) rfl dX9_go_241 ?_
            refine g_if_neB (tgt := 262) O dX9_go_244 (by decide) (fun c_26 => ?_) (fun c_26 => absurd c_26 (by decide))
            refine g_iconst (x := (nI 0)) O dX9_go_262 (by decide +kernel) ?_
            refine g_istore_n (L' := [(0, .ref u0), (1, .int (bB false)), (2, .int (nI (m_ + 1))), (3, .int (nI 0)), (5, .int (nI sd)), (6, .int r9_20), (7, .int (nI 0)), (8, .int (nI 0)), (9, .int (nI 1))]) O dX9_go_263 rfl (by decide) [1, 2, 3, 0, 4, 5, 6, 7, 8] rfl ?_
            refine g_iload_n O dX9_go_264 3 rfl rfl ?_
            refine g_if_eqN (tgt := 291) O (by omega) dX9_go_265 (by decide) (fun c_27 => ?_) (fun c_27 => absurd c_27 (by decide))
            refine g_goto (tgt := 14) O dX9_go_291 (by decide) ?_
            refine g_iload_n O dX9_go_14 3 rfl rfl ?_
            refine g_if_eqN (tgt := 294) O (by omega) dX9_go_15 (by decide) (fun c_28 => ?_) (fun c_28 => absurd c_28 (by decide))
            refine g_iload_n O dX9_go_294 2 rfl rfl ?_
            exact E 295 _ (nI (m_ + 1)) _ dX9_go_295 (by rw [he]; first | exact ⟨_, fun h => by cases h, rfl, rfl⟩ | exact ⟨_, fun _ => rfl, rfl, rfl⟩)
          | some al =>
            have hra := hr9_21 al hna
            have hav := rdN_v (by omega) hna
            have hRA : (rdN tx ty (c_ + 1) 0 11) = (some al, (rdN tx ty (c_ + 1) 0 11).2) := Prod.ext hna rfl
            generalize (rdN tx ty (c_ + 1) 0 11).2 = c1 at *
            refine g_eq (st' := [.int (nI al)]) (ws' := [(u0, .inr (9, [.ref u1, .ref u2, .ref u3, .ref u4, .ref u5, .ref u6, .int (nI kn), .ref u7, .int (bB ik), .ref u8, .int (nI ty), .ref u9, .int (nI c1), .int (bB false), .ref u10, .ref u11])), (u8, .inl ((TY D)[0].1, 60, .inl (nf tx)))]) (by rw [hra]) rfl rfl ?_
            refine g_istore (L' := [(0, .ref u0), (1, .int (bB false)), (2, .int (nI m_)), (3, .int (nI 1)), (5, .int (nI sd)), (6, .int (nI al))]) O dX9_go_143 (by decide) [1, 2, 3, 4, 5, 0] rfl ?_
            refine g_aload_n O dX9_go_145 0 rfl rfl ?_
            refine g_get O hiX9_go_X9 0 rfl rfl 13 (by decide) (by decide +kernel) rfl dX9_go_146 ?_
            refine g_if_neB (tgt := 181) O dX9_go_149 (by decide) (fun c_29 => absurd c_29 (by decide)) (fun c_29 => ?_)
            refine g_aload_n O dX9_go_152 0 rfl rfl ?_
            refine g_get O hiX9_go_X9 0 rfl rfl 12 (by decide) (by decide +kernel) rfl dX9_go_153 ?_
            refine g_aload_n O dX9_go_156 0 rfl rfl ?_
            refine g_get O hiX9_go_X9 0 rfl rfl 10 (by decide) (by decide +kernel) rfl dX9_go_157 ?_
            refine g_icmp_geN (tgt := 181) O (by omega) (by omega) dX9_go_160 (by decide) (fun c_30 => ?_) (fun c_30 => ?_)
            ·
              have hB := rdB_2 hsd hRA (fun h => by omega)
              refine g_iconst (x := (nI 0)) O dX9_go_181 (by decide +kernel) ?_
              refine g_istore (L' := [(0, .ref u0), (1, .int (bB false)), (2, .int (nI m_)), (3, .int (nI 1)), (5, .int (nI sd)), (6, .int (nI al)), (7, .int (nI 0))]) O dX9_go_182 (by decide) [1, 2, 3, 4, 5, 6, 0] rfl ?_
              refine g_iload O dX9_go_184 6 rfl ?_
              refine g_if_eqN (tgt := 200) O (by omega) dX9_go_186 (by decide) (fun c_31 => ?_) (fun c_31 => absurd c_31 (by decide))
              refine g_iconst (x := (nI 0)) O dX9_go_200 (by decide +kernel) ?_
              refine g_istore (L' := [(0, .ref u0), (1, .int (bB false)), (2, .int (nI m_)), (3, .int (nI 1)), (5, .int (nI sd)), (6, .int (nI al)), (7, .int (nI 0)), (8, .int (nI 0))]) O dX9_go_201 (by decide) [1, 2, 3, 4, 5, 6, 7, 0] rfl ?_
              refine g_iload O dX9_go_203 6 rfl ?_
              refine g_if_eqN (tgt := 218) O (by omega) dX9_go_205 (by decide) (fun c_32 => ?_) (fun c_32 => absurd c_32 (by decide))
              refine g_iconst (x := (nI 1)) O dX9_go_218 (by decide +kernel) ?_
              refine g_istore (L' := [(0, .ref u0), (1, .int (bB false)), (2, .int (nI m_)), (3, .int (nI 1)), (5, .int (nI sd)), (6, .int (nI al)), (7, .int (nI 0)), (8, .int (nI 0)), (9, .int (nI 1))]) O dX9_go_219 (by decide) [1, 2, 3, 4, 5, 6, 7, 8, 0] rfl ?_
              refine g_iload_n O dX9_go_221 1 rfl rfl ?_
              refine g_if_eqB (tgt := 237) O dX9_go_222 (by decide) (fun c_33 => ?_) (fun c_33 => absurd c_33 (by decide))
              have hBs := rdB_s hB
              refine g_iincN (L' := [(0, .ref u0), (1, .int (bB false)), (2, .int (nI (m_ + 1))), (3, .int (nI 1)), (5, .int (nI sd)), (6, .int (nI al)), (7, .int (nI 0)), (8, .int (nI 0)), (9, .int (nI 1))]) O dX9_go_237 2 rfl (by decide) [1, 2, 0, 3, 4, 5, 6, 7, 8] rfl ?_
              refine g_aload_n O dX9_go_240 0 rfl rfl ?_
              refine g_get O hiX9_go_X9 0 rfl rfl 13 (by decide) (by decide +kernel) rfl dX9_go_241 ?_
              refine g_if_neB (tgt := 262) O dX9_go_244 (by decide) (fun c_34 => absurd c_34 (by decide)) (fun c_34 => ?_)
              refine g_aload_n O dX9_go_247 0 rfl rfl ?_
              refine g_get O hiX9_go_X9 0 rfl rfl 12 (by decide) (by decide +kernel) rfl dX9_go_248 ?_
              refine g_aload_n O dX9_go_251 0 rfl rfl ?_
              refine g_get O hiX9_go_X9 0 rfl rfl 10 (by decide) (by decide +kernel) rfl dX9_go_252 ?_
              refine g_icmp_geN (tgt := 262) O (by omega) (by omega) dX9_go_255 (by decide) (fun c_35 => ?_) (fun c_35 => ?_)
              ·
                have he := rdP_Be (f := f_ - 1) (n := m_) (fs := Fs) (fa := Fa) (fk := Fk) hB (by omega)
                rw [show f_ - 1 + 1 = f_ by omega, hR] at he
                refine g_iconst (x := (nI 0)) O dX9_go_262 (by decide +kernel) ?_
                refine g_istore_n (L' := [(0, .ref u0), (1, .int (bB false)), (2, .int (nI (m_ + 1))), (3, .int (nI 0)), (5, .int (nI sd)), (6, .int (nI al)), (7, .int (nI 0)), (8, .int (nI 0)), (9, .int (nI 1))]) O dX9_go_263 rfl (by decide) [1, 2, 3, 0, 4, 5, 6, 7, 8] rfl ?_
                refine g_iload_n O dX9_go_264 3 rfl rfl ?_
                refine g_if_eqN (tgt := 291) O (by omega) dX9_go_265 (by decide) (fun c_36 => ?_) (fun c_36 => absurd c_36 (by decide))
                refine g_goto (tgt := 14) O dX9_go_291 (by decide) ?_
                refine g_iload_n O dX9_go_14 3 rfl rfl ?_
                refine g_if_eqN (tgt := 294) O (by omega) dX9_go_15 (by decide) (fun c_37 => ?_) (fun c_37 => absurd c_37 (by decide))
                refine g_iload_n O dX9_go_294 2 rfl rfl ?_
                exact E 295 _ (nI (m_ + 1)) _ dX9_go_295 (by rw [he]; first | exact ⟨_, fun h => by cases h, rfl, rfl⟩ | exact ⟨_, fun _ => rfl, rfl, rfl⟩)
              ·
                refine g_iconst (x := (nI 1)) O dX9_go_258 (by decide +kernel) ?_
                refine g_goto (tgt := 263) O dX9_go_259 (by decide) ?_
                refine g_istore_n (L' := [(0, .ref u0), (1, .int (bB false)), (2, .int (nI (m_ + 1))), (3, .int (nI 1)), (5, .int (nI sd)), (6, .int (nI al)), (7, .int (nI 0)), (8, .int (nI 0)), (9, .int (nI 1))]) O dX9_go_263 rfl (by decide) [1, 2, 3, 0, 4, 5, 6, 7, 8] rfl ?_
                refine g_iload_n O dX9_go_264 3 rfl rfl ?_
                refine g_if_eqN (tgt := 291) O (by omega) dX9_go_265 (by decide) (fun c_38 => absurd c_38 (by decide)) (fun c_38 => ?_)
                have hce : c1 < ty := by omega
                refine g_aload_n O dX9_go_268 0 rfl rfl ?_
                refine g_bipush (x := (nI 44)) O dX9_go_269 (by decide +kernel) ?_
                refine g_bipush (x := (nI 44)) O dX9_go_271 (by decide +kernel) ?_
                refine g_callV (As := [.int (nI 44), .int (nI 44)]) (wr := []) O (kX9_sign l D z u0 u1 u2 u3 u4 u5 u6 u7 u8 u9 u10 u11 kn ik ty c1 false tx 44 44 (by first | assumption | omega) (by first | assumption | omega) (by first | assumption | omega) (by first | assumption | omega) (by first | assumption | omega)) gX9_go_X9_sign rfl rfl rfl 2 (by decide +kernel) (by decide) (by decide) (q0 := 0) rfl rfl rfl [0, 1] [] rfl (by decide) rfl (by decide) (by decide) rfl rfl (Nat.le_of_ble_eq_true rfl) dX9_go_273 (fun r_39 w_40 hp => ?_)
                obtain ⟨rfl, rfl⟩ := hp
                refine g_eq (st' := [.int (nI (chV tx ty c1))]) (ws' := [(u0, .inr (9, [.ref u1, .ref u2, .ref u3, .ref u4, .ref u5, .ref u6, .int (nI kn), .ref u7, .int (bB ik), .ref u8, .int (nI ty), .ref u9, .int (nI (sgA tx ty c1 false 44 44)), .int (bB (sgW tx ty c1 false 44 44)), .ref u10, .ref u11])), (u8, .inl ((TY D)[0].1, 60, .inl (nf tx)))]) rfl rfl rfl ?_
                by_cases hx44 : tx c1 = 44
                ·
                  obtain ⟨y1, y2, y3⟩ := sg_ok (lo := 44) (hi := 44) hce (by omega) (by omega)
                  refine g_eq (ws' := [(u0, .inr (9, [.ref u1, .ref u2, .ref u3, .ref u4, .ref u5, .ref u6, .int (nI kn), .ref u7, .int (bB ik), .ref u8, .int (nI ty), .ref u9, .int (nI (c1 + 1)), .int (bB false), .ref u10, .ref u11])), (u8, .inl ((TY D)[0].1, 60, .inl (nf tx)))]) rfl rfl (by rw [y1, y2]) ?_
                  have he := rdP_Bc (f := f_ - 1) (n := m_) (fs := Fs) (fa := Fa) (fk := Fk) hB hce hx44
                  rw [show f_ - 1 + 1 = f_ by omega, hR] at he
                  refine g_istore (L' := [(0, .ref u0), (1, .int (bB false)), (2, .int (nI (m_ + 1))), (3, .int (nI 1)), (5, .int (nI sd)), (6, .int (nI al)), (7, .int (nI 0)), (8, .int (nI 0)), (9, .int (nI 1)), (10, .int (nI (chV tx ty c1)))]) O dX9_go_276 (by decide) [1, 2, 3, 4, 5, 6, 7, 8, 9, 0] rfl ?_
                  refine g_aload_n O dX9_go_278 0 rfl rfl ?_
                  refine g_get O hiX9_go_X9 0 rfl rfl 13 (by decide) (by decide +kernel) rfl dX9_go_279 ?_
                  refine g_if_neB (tgt := 289) O dX9_go_282 (by decide) (fun c_41 => absurd c_41 (by decide)) (fun c_41 => ?_)
                  refine g_iconst (x := (nI 1)) O dX9_go_285 (by decide +kernel) ?_
                  refine g_goto (tgt := 290) O dX9_go_286 (by decide) ?_
                  refine g_istore_n (L' := [(0, .ref u0), (1, .int (bB false)), (2, .int (nI (m_ + 1))), (3, .int (nI 1)), (5, .int (nI sd)), (6, .int (nI al)), (7, .int (nI 0)), (8, .int (nI 0)), (9, .int (nI 1)), (10, .int (nI (chV tx ty c1)))]) O dX9_go_290 rfl (by decide) [1, 2, 3, 0, 4, 5, 6, 7, 8, 9] rfl ?_
                  refine g_goto (tgt := 14) O dX9_go_291 (by decide) ?_
                  refine g_iload_n O dX9_go_14 3 rfl rfl ?_
                  refine g_if_eqN (tgt := 294) O (by omega) dX9_go_15 (by decide) (fun c_42 => absurd c_42 (by decide)) (fun c_42 => ?_)
                  refine g_locals (L' := [(0, .ref u0), (1, .int (bB false)), (2, .int (nI (m_ + 1))), (3, .int (nI 1))]) [0, 1, 2, 3] rfl ?_
                  exact ih_ (f_ - 1) (c1 + 1) (m_ + 1) (upf Fs m_ sd) (upf Fa m_ al) (upf Fk m_ 1) (by omega) (by omega) (he.symm) (by omega)
                ·
                  have he := rdP_Bn (f := f_ - 1) (n := m_) (fs := Fs) (fa := Fa) (fk := Fk) hB hce hx44
                  rw [show f_ - 1 + 1 = f_ by omega, hR] at he
                  have hsw : sgW tx ty c1 false 44 44 = true := by cases hh : sgW tx ty c1 false 44 44; (exfalso; obtain ⟨z1, z2, z3, z4, z5⟩ := sg_t (by omega) hh; omega); rfl
                  refine g_eq (ws' := [(u0, .inr (9, [.ref u1, .ref u2, .ref u3, .ref u4, .ref u5, .ref u6, .int (nI kn), .ref u7, .int (bB ik), .ref u8, .int (nI ty), .ref u9, .int (nI c1), .int (bB true), .ref u10, .ref u11])), (u8, .inl ((TY D)[0].1, 60, .inl (nf tx)))]) rfl rfl (by rw [(sg_f hsw).2, hsw]) ?_
                  refine g_istore (L' := [(0, .ref u0), (1, .int (bB false)), (2, .int (nI (m_ + 1))), (3, .int (nI 1)), (5, .int (nI sd)), (6, .int (nI al)), (7, .int (nI 0)), (8, .int (nI 0)), (9, .int (nI 1)), (10, .int (nI (chV tx ty c1)))]) O dX9_go_276 (by decide) [1, 2, 3, 4, 5, 6, 7, 8, 9, 0] rfl ?_
                  refine g_aload_n O dX9_go_278 0 rfl rfl ?_
                  refine g_get O hiX9_go_X9 0 rfl rfl 13 (by decide) (by decide +kernel) rfl dX9_go_279 ?_
                  refine g_if_neB (tgt := 289) O dX9_go_282 (by decide) (fun c_43 => ?_) (fun c_43 => absurd c_43 (by decide))
                  refine g_iconst (x := (nI 0)) O dX9_go_289 (by decide +kernel) ?_
                  refine g_istore_n (L' := [(0, .ref u0), (1, .int (bB false)), (2, .int (nI (m_ + 1))), (3, .int (nI 0)), (5, .int (nI sd)), (6, .int (nI al)), (7, .int (nI 0)), (8, .int (nI 0)), (9, .int (nI 1)), (10, .int (nI (chV tx ty c1)))]) O dX9_go_290 rfl (by decide) [1, 2, 3, 0, 4, 5, 6, 7, 8, 9] rfl ?_
                  refine g_goto (tgt := 14) O dX9_go_291 (by decide) ?_
                  refine g_iload_n O dX9_go_14 3 rfl rfl ?_
                  refine g_if_eqN (tgt := 294) O (by omega) dX9_go_15 (by decide) (fun c_44 => ?_) (fun c_44 => absurd c_44 (by decide))
                  refine g_iload_n O dX9_go_294 2 rfl rfl ?_
                  exact E 295 _ (nI (m_ + 1)) _ dX9_go_295 (by rw [he]; first | exact ⟨_, fun h => by cases h, rfl, rfl⟩ | exact ⟨_, fun _ => rfl, rfl, rfl⟩)
            ·
              have hc1 : c1 < ty := by omega
              have htc1 := htx c1 hc1
              refine g_aload_n O dX9_go_163 0 rfl rfl ?_
              refine g_get O hiX9_go_X9 0 rfl rfl 9 (by decide) (by decide +kernel) rfl dX9_go_164 ?_
              refine g_aload_n O dX9_go_167 0 rfl rfl ?_
              refine g_get O hiX9_go_X9 0 rfl rfl 12 (by decide) (by decide +kernel) rfl dX9_go_168 ?_
              refine g_ialdN O 1 rfl (by omega) (by omega) dX9_go_171 ?_
              refine g_bipush (x := (nI 120)) O dX9_go_172 (by decide +kernel) ?_
              refine g_icmp_neN (tgt := 181) O (by omega) (by omega) dX9_go_174 (by decide) (fun c_45 => ?_) (fun c_45 => ?_)
              ·
                have hB := rdB_2 hsd hRA (fun h => absurd h.2 c_45)
                refine g_iconst (x := (nI 0)) O dX9_go_181 (by decide +kernel) ?_
                refine g_istore (L' := [(0, .ref u0), (1, .int (bB false)), (2, .int (nI m_)), (3, .int (nI 1)), (5, .int (nI sd)), (6, .int (nI al)), (7, .int (nI 0))]) O dX9_go_182 (by decide) [1, 2, 3, 4, 5, 6, 0] rfl ?_
                refine g_iload O dX9_go_184 6 rfl ?_
                refine g_if_eqN (tgt := 200) O (by omega) dX9_go_186 (by decide) (fun c_46 => ?_) (fun c_46 => absurd c_46 (by decide))
                refine g_iconst (x := (nI 0)) O dX9_go_200 (by decide +kernel) ?_
                refine g_istore (L' := [(0, .ref u0), (1, .int (bB false)), (2, .int (nI m_)), (3, .int (nI 1)), (5, .int (nI sd)), (6, .int (nI al)), (7, .int (nI 0)), (8, .int (nI 0))]) O dX9_go_201 (by decide) [1, 2, 3, 4, 5, 6, 7, 0] rfl ?_
                refine g_iload O dX9_go_203 6 rfl ?_
                refine g_if_eqN (tgt := 218) O (by omega) dX9_go_205 (by decide) (fun c_47 => ?_) (fun c_47 => absurd c_47 (by decide))
                refine g_iconst (x := (nI 1)) O dX9_go_218 (by decide +kernel) ?_
                refine g_istore (L' := [(0, .ref u0), (1, .int (bB false)), (2, .int (nI m_)), (3, .int (nI 1)), (5, .int (nI sd)), (6, .int (nI al)), (7, .int (nI 0)), (8, .int (nI 0)), (9, .int (nI 1))]) O dX9_go_219 (by decide) [1, 2, 3, 4, 5, 6, 7, 8, 0] rfl ?_
                refine g_iload_n O dX9_go_221 1 rfl rfl ?_
                refine g_if_eqB (tgt := 237) O dX9_go_222 (by decide) (fun c_48 => ?_) (fun c_48 => absurd c_48 (by decide))
                have hBs := rdB_s hB
                refine g_iincN (L' := [(0, .ref u0), (1, .int (bB false)), (2, .int (nI (m_ + 1))), (3, .int (nI 1)), (5, .int (nI sd)), (6, .int (nI al)), (7, .int (nI 0)), (8, .int (nI 0)), (9, .int (nI 1))]) O dX9_go_237 2 rfl (by decide) [1, 2, 0, 3, 4, 5, 6, 7, 8] rfl ?_
                refine g_aload_n O dX9_go_240 0 rfl rfl ?_
                refine g_get O hiX9_go_X9 0 rfl rfl 13 (by decide) (by decide +kernel) rfl dX9_go_241 ?_
                refine g_if_neB (tgt := 262) O dX9_go_244 (by decide) (fun c_49 => absurd c_49 (by decide)) (fun c_49 => ?_)
                refine g_aload_n O dX9_go_247 0 rfl rfl ?_
                refine g_get O hiX9_go_X9 0 rfl rfl 12 (by decide) (by decide +kernel) rfl dX9_go_248 ?_
                refine g_aload_n O dX9_go_251 0 rfl rfl ?_
                refine g_get O hiX9_go_X9 0 rfl rfl 10 (by decide) (by decide +kernel) rfl dX9_go_252 ?_
                refine g_icmp_geN (tgt := 262) O (by omega) (by omega) dX9_go_255 (by decide) (fun c_50 => ?_) (fun c_50 => ?_)
                ·
                  have he := rdP_Be (f := f_ - 1) (n := m_) (fs := Fs) (fa := Fa) (fk := Fk) hB (by omega)
                  rw [show f_ - 1 + 1 = f_ by omega, hR] at he
                  refine g_iconst (x := (nI 0)) O dX9_go_262 (by decide +kernel) ?_
                  refine g_istore_n (L' := [(0, .ref u0), (1, .int (bB false)), (2, .int (nI (m_ + 1))), (3, .int (nI 0)), (5, .int (nI sd)), (6, .int (nI al)), (7, .int (nI 0)), (8, .int (nI 0)), (9, .int (nI 1))]) O dX9_go_263 rfl (by decide) [1, 2, 3, 0, 4, 5, 6, 7, 8] rfl ?_
                  refine g_iload_n O dX9_go_264 3 rfl rfl ?_
                  refine g_if_eqN (tgt := 291) O (by omega) dX9_go_265 (by decide) (fun c_51 => ?_) (fun c_51 => absurd c_51 (by decide))
                  refine g_goto (tgt := 14) O dX9_go_291 (by decide) ?_
                  refine g_iload_n O dX9_go_14 3 rfl rfl ?_
                  refine g_if_eqN (tgt := 294) O (by omega) dX9_go_15 (by decide) (fun c_52 => ?_) (fun c_52 => absurd c_52 (by decide))
                  refine g_iload_n O dX9_go_294 2 rfl rfl ?_
                  exact E 295 _ (nI (m_ + 1)) _ dX9_go_295 (by rw [he]; first | exact ⟨_, fun h => by cases h, rfl, rfl⟩ | exact ⟨_, fun _ => rfl, rfl, rfl⟩)
                ·
                  refine g_iconst (x := (nI 1)) O dX9_go_258 (by decide +kernel) ?_
                  refine g_goto (tgt := 263) O dX9_go_259 (by decide) ?_
                  refine g_istore_n (L' := [(0, .ref u0), (1, .int (bB false)), (2, .int (nI (m_ + 1))), (3, .int (nI 1)), (5, .int (nI sd)), (6, .int (nI al)), (7, .int (nI 0)), (8, .int (nI 0)), (9, .int (nI 1))]) O dX9_go_263 rfl (by decide) [1, 2, 3, 0, 4, 5, 6, 7, 8] rfl ?_
                  refine g_iload_n O dX9_go_264 3 rfl rfl ?_
                  refine g_if_eqN (tgt := 291) O (by omega) dX9_go_265 (by decide) (fun c_53 => absurd c_53 (by decide)) (fun c_53 => ?_)
                  have hce : c1 < ty := by omega
                  refine g_aload_n O dX9_go_268 0 rfl rfl ?_
                  refine g_bipush (x := (nI 44)) O dX9_go_269 (by decide +kernel) ?_
                  refine g_bipush (x := (nI 44)) O dX9_go_271 (by decide +kernel) ?_
                  refine g_callV (As := [.int (nI 44), .int (nI 44)]) (wr := []) O (kX9_sign l D z u0 u1 u2 u3 u4 u5 u6 u7 u8 u9 u10 u11 kn ik ty c1 false tx 44 44 (by first | assumption | omega) (by first | assumption | omega) (by first | assumption | omega) (by first | assumption | omega) (by first | assumption | omega)) gX9_go_X9_sign rfl rfl rfl 2 (by decide +kernel) (by decide) (by decide) (q0 := 0) rfl rfl rfl [0, 1] [] rfl (by decide) rfl (by decide) (by decide) rfl rfl (Nat.le_of_ble_eq_true rfl) dX9_go_273 (fun r_54 w_55 hp => ?_)
                  obtain ⟨rfl, rfl⟩ := hp
                  refine g_eq (st' := [.int (nI (chV tx ty c1))]) (ws' := [(u0, .inr (9, [.ref u1, .ref u2, .ref u3, .ref u4, .ref u5, .ref u6, .int (nI kn), .ref u7, .int (bB ik), .ref u8, .int (nI ty), .ref u9, .int (nI (sgA tx ty c1 false 44 44)), .int (bB (sgW tx ty c1 false 44 44)), .ref u10, .ref u11])), (u8, .inl ((TY D)[0].1, 60, .inl (nf tx)))]) rfl rfl rfl ?_
                  by_cases hx44 : tx c1 = 44
                  ·
                    obtain ⟨y1, y2, y3⟩ := sg_ok (lo := 44) (hi := 44) hce (by omega) (by omega)
                    refine g_eq (ws' := [(u0, .inr (9, [.ref u1, .ref u2, .ref u3, .ref u4, .ref u5, .ref u6, .int (nI kn), .ref u7, .int (bB ik), .ref u8, .int (nI ty), .ref u9, .int (nI (c1 + 1)), .int (bB false), .ref u10, .ref u11])), (u8, .inl ((TY D)[0].1, 60, .inl (nf tx)))]) rfl rfl (by rw [y1, y2]) ?_
                    have he := rdP_Bc (f := f_ - 1) (n := m_) (fs := Fs) (fa := Fa) (fk := Fk) hB hce hx44
                    rw [show f_ - 1 + 1 = f_ by omega, hR] at he
                    refine g_istore (L' := [(0, .ref u0), (1, .int (bB false)), (2, .int (nI (m_ + 1))), (3, .int (nI 1)), (5, .int (nI sd)), (6, .int (nI al)), (7, .int (nI 0)), (8, .int (nI 0)), (9, .int (nI 1)), (10, .int (nI (chV tx ty c1)))]) O dX9_go_276 (by decide) [1, 2, 3, 4, 5, 6, 7, 8, 9, 0] rfl ?_
                    refine g_aload_n O dX9_go_278 0 rfl rfl ?_
                    refine g_get O hiX9_go_X9 0 rfl rfl 13 (by decide) (by decide +kernel) rfl dX9_go_279 ?_
                    refine g_if_neB (tgt := 289) O dX9_go_282 (by decide) (fun c_56 => absurd c_56 (by decide)) (fun c_56 => ?_)
                    refine g_iconst (x := (nI 1)) O dX9_go_285 (by decide +kernel) ?_
                    refine g_goto (tgt := 290) O dX9_go_286 (by decide) ?_
                    refine g_istore_n (L' := [(0, .ref u0), (1, .int (bB false)), (2, .int (nI (m_ + 1))), (3, .int (nI 1)), (5, .int (nI sd)), (6, .int (nI al)), (7, .int (nI 0)), (8, .int (nI 0)), (9, .int (nI 1)), (10, .int (nI (chV tx ty c1)))]) O dX9_go_290 rfl (by decide) [1, 2, 3, 0, 4, 5, 6, 7, 8, 9] rfl ?_
                    refine g_goto (tgt := 14) O dX9_go_291 (by decide) ?_
                    refine g_iload_n O dX9_go_14 3 rfl rfl ?_
                    refine g_if_eqN (tgt := 294) O (by omega) dX9_go_15 (by decide) (fun c_57 => absurd c_57 (by decide)) (fun c_57 => ?_)
                    refine g_locals (L' := [(0, .ref u0), (1, .int (bB false)), (2, .int (nI (m_ + 1))), (3, .int (nI 1))]) [0, 1, 2, 3] rfl ?_
                    exact ih_ (f_ - 1) (c1 + 1) (m_ + 1) (upf Fs m_ sd) (upf Fa m_ al) (upf Fk m_ 1) (by omega) (by omega) (he.symm) (by omega)
                  ·
                    have he := rdP_Bn (f := f_ - 1) (n := m_) (fs := Fs) (fa := Fa) (fk := Fk) hB hce hx44
                    rw [show f_ - 1 + 1 = f_ by omega, hR] at he
                    have hsw : sgW tx ty c1 false 44 44 = true := by cases hh : sgW tx ty c1 false 44 44; (exfalso; obtain ⟨z1, z2, z3, z4, z5⟩ := sg_t (by omega) hh; omega); rfl
                    refine g_eq (ws' := [(u0, .inr (9, [.ref u1, .ref u2, .ref u3, .ref u4, .ref u5, .ref u6, .int (nI kn), .ref u7, .int (bB ik), .ref u8, .int (nI ty), .ref u9, .int (nI c1), .int (bB true), .ref u10, .ref u11])), (u8, .inl ((TY D)[0].1, 60, .inl (nf tx)))]) rfl rfl (by rw [(sg_f hsw).2, hsw]) ?_
                    refine g_istore (L' := [(0, .ref u0), (1, .int (bB false)), (2, .int (nI (m_ + 1))), (3, .int (nI 1)), (5, .int (nI sd)), (6, .int (nI al)), (7, .int (nI 0)), (8, .int (nI 0)), (9, .int (nI 1)), (10, .int (nI (chV tx ty c1)))]) O dX9_go_276 (by decide) [1, 2, 3, 4, 5, 6, 7, 8, 9, 0] rfl ?_
                    refine g_aload_n O dX9_go_278 0 rfl rfl ?_
                    refine g_get O hiX9_go_X9 0 rfl rfl 13 (by decide) (by decide +kernel) rfl dX9_go_279 ?_
                    refine g_if_neB (tgt := 289) O dX9_go_282 (by decide) (fun c_58 => ?_) (fun c_58 => absurd c_58 (by decide))
                    refine g_iconst (x := (nI 0)) O dX9_go_289 (by decide +kernel) ?_
                    refine g_istore_n (L' := [(0, .ref u0), (1, .int (bB false)), (2, .int (nI (m_ + 1))), (3, .int (nI 0)), (5, .int (nI sd)), (6, .int (nI al)), (7, .int (nI 0)), (8, .int (nI 0)), (9, .int (nI 1)), (10, .int (nI (chV tx ty c1)))]) O dX9_go_290 rfl (by decide) [1, 2, 3, 0, 4, 5, 6, 7, 8, 9] rfl ?_
                    refine g_goto (tgt := 14) O dX9_go_291 (by decide) ?_
                    refine g_iload_n O dX9_go_14 3 rfl rfl ?_
                    refine g_if_eqN (tgt := 294) O (by omega) dX9_go_15 (by decide) (fun c_59 => ?_) (fun c_59 => absurd c_59 (by decide))
                    refine g_iload_n O dX9_go_294 2 rfl rfl ?_
                    exact E 295 _ (nI (m_ + 1)) _ dX9_go_295 (by rw [he]; first | exact ⟨_, fun h => by cases h, rfl, rfl⟩ | exact ⟨_, fun _ => rfl, rfl, rfl⟩)
              ·
                have hx := c_45
                refine g_iconst (x := (nI 1)) O dX9_go_177 (by decide +kernel) ?_
                refine g_goto (tgt := 182) O dX9_go_178 (by decide) ?_
                refine g_istore (L' := [(0, .ref u0), (1, .int (bB false)), (2, .int (nI m_)), (3, .int (nI 1)), (5, .int (nI sd)), (6, .int (nI al)), (7, .int (nI 1))]) O dX9_go_182 (by decide) [1, 2, 3, 4, 5, 6, 0] rfl ?_
                refine g_iload O dX9_go_184 6 rfl ?_
                refine g_if_eqN (tgt := 200) O (by omega) dX9_go_186 (by decide) (fun c_60 => absurd c_60 (by decide)) (fun c_60 => ?_)
                refine g_aload_n O dX9_go_189 0 rfl rfl ?_
                refine g_bipush (x := (nI 120)) O dX9_go_190 (by decide +kernel) ?_
                refine g_bipush (x := (nI 120)) O dX9_go_192 (by decide +kernel) ?_
                refine g_callV (As := [.int (nI 120), .int (nI 120)]) (wr := []) O (kX9_sign l D z u0 u1 u2 u3 u4 u5 u6 u7 u8 u9 u10 u11 kn ik ty c1 false tx 120 120 (by first | assumption | omega) (by first | assumption | omega) (by first | assumption | omega) (by first | assumption | omega) (by first | assumption | omega)) gX9_go_X9_sign rfl rfl rfl 2 (by decide +kernel) (by decide) (by decide) (q0 := 0) rfl rfl rfl [0, 1] [] rfl (by decide) rfl (by decide) (by decide) rfl rfl (Nat.le_of_ble_eq_true rfl) dX9_go_194 (fun r_61 w_62 hp => ?_)
                obtain ⟨rfl, rfl⟩ := hp
                refine g_eq (st' := [.int (nI (chV tx ty c1))]) (ws' := [(u0, .inr (9, [.ref u1, .ref u2, .ref u3, .ref u4, .ref u5, .ref u6, .int (nI kn), .ref u7, .int (bB ik), .ref u8, .int (nI ty), .ref u9, .int (nI (sgA tx ty c1 false 120 120)), .int (bB (sgW tx ty c1 false 120 120)), .ref u10, .ref u11])), (u8, .inl ((TY D)[0].1, 60, .inl (nf tx)))]) rfl rfl rfl ?_
                obtain ⟨v1, v2, v3⟩ := sg_ok (lo := 120) (hi := 120) hc1 (by omega) (by omega)
                refine g_eq (st' := [.int (nI (tx c1))]) (ws' := [(u0, .inr (9, [.ref u1, .ref u2, .ref u3, .ref u4, .ref u5, .ref u6, .int (nI kn), .ref u7, .int (bB ik), .ref u8, .int (nI ty), .ref u9, .int (nI (c1 + 1)), .int (bB false), .ref u10, .ref u11])), (u8, .inl ((TY D)[0].1, 60, .inl (nf tx)))]) (by rw [v3]) rfl (by rw [v1, v2]) ?_
                refine g_goto (tgt := 201) O dX9_go_197 (by decide) ?_
                refine g_istore (L' := [(0, .ref u0), (1, .int (bB false)), (2, .int (nI m_)), (3, .int (nI 1)), (5, .int (nI sd)), (6, .int (nI al)), (7, .int (nI 1)), (8, .int (nI (tx c1)))]) O dX9_go_201 (by decide) [1, 2, 3, 4, 5, 6, 7, 0] rfl ?_
                refine g_iload O dX9_go_203 6 rfl ?_
                refine g_if_eqN (tgt := 218) O (by omega) dX9_go_205 (by decide) (fun c_63 => absurd c_63 (by decide)) (fun c_63 => ?_)
                refine g_aload_n O dX9_go_208 0 rfl rfl ?_
                refine g_iconst (x := (nI 1)) O dX9_go_209 (by decide +kernel) ?_
                refine g_bipush (x := (nI 20)) O dX9_go_210 (by decide +kernel) ?_
                refine g_callV (As := [.int (nI 1), .int (nI 20)]) (wr := []) O (kX9_number_o l D z u0 u1 u2 u3 u4 u5 u6 u7 u8 u9 u10 u11 kn ik ty (c1 + 1) tx 1 20 (by first | assumption | omega) (by first | assumption | omega) (by first | assumption | omega) (by first | assumption | omega) (by first | assumption | omega) (by first | assumption | omega)) gX9_go_X9_number rfl rfl rfl 2 (by decide +kernel) (by decide) (by decide) (q0 := 0) rfl rfl rfl [0, 1] [] rfl (by decide) rfl (by decide) (by decide) rfl rfl (Nat.le_of_ble_eq_true rfl) dX9_go_212 (fun r_64 w_65 hp => ?_)
                obtain ⟨r9_66, hr9_67, rfl, rfl⟩ := hp
                refine g_eq (st' := [.int r9_66]) (ws' := [(u0, .inr (9, [.ref u1, .ref u2, .ref u3, .ref u4, .ref u5, .ref u6, .int (nI kn), .ref u7, .int (bB ik), .ref u8, .int (nI ty), .ref u9, .int (nI ((rdN tx ty (c1 + 1) 1 20).2)), .int (bB ((rdN tx ty (c1 + 1) 1 20).1.isNone)), .ref u10, .ref u11])), (u8, .inl ((TY D)[0].1, 60, .inl (nf tx)))]) rfl rfl rfl ?_
                cases hnb : (rdN tx ty (c1 + 1) 1 20).1 with
                | none =>
                  have hB := rdB_3 hsd hRA hc1 hx (show (rdN tx ty (c1 + 1) 1 20) = (none, (rdN tx ty (c1 + 1) 1 20).2) from Prod.ext hnb rfl)
                  refine g_eq (ws' := [(u0, .inr (9, [.ref u1, .ref u2, .ref u3, .ref u4, .ref u5, .ref u6, .int (nI kn), .ref u7, .int (bB ik), .ref u8, .int (nI ty), .ref u9, .int (nI ((rdN tx ty (c1 + 1) 1 20).2)), .int (bB true), .ref u10, .ref u11])), (u8, .inl ((TY D)[0].1, 60, .inl (nf tx)))]) rfl rfl rfl ?_
                  refine g_goto (tgt := 219) O dX9_go_215 (by decide) ?_
                  refine g_istore (L' := [(0, .ref u0), (1, .int (bB false)), (2, .int (nI m_)), (3, .int (nI 1)), (5, .int (nI sd)), (6, .int (nI al)), (7, .int (nI 1)), (8, .int (nI (tx c1))), (9, .int r9_66)]) O dX9_go_219 (by decide) [1, 2, 3, 4, 5, 6, 7, 8, 0] rfl ?_
                  refine g_iload_n O dX9_go_221 1 rfl rfl ?_
                  refine g_if_eqB (tgt := 237) O dX9_go_222 (by decide) (fun c_68 => ?_) (fun c_68 => absurd c_68 (by decide))
                  have he := rdP_B0 (f := f_ - 1) (n := m_) (fs := Fs) (fa := Fa) (fk := Fk) hB
                  rw [show f_ - 1 + 1 = f_ by omega, hR] at he
                  refine g_iincN (L' := [(0, .ref u0), (1, .int (bB false)), (2, .int (nI (m_ + 1))), (3, .int (nI 1)), (5, .int (nI sd)), (6, .int (nI al)), (7, .int (nI 1)), (8, .int (nI (tx c1))), (9, .int r9_66)]) O dX9_go_237 2 rfl (by decide) [1, 2, 0, 3, 4, 5, 6, 7, 8] rfl ?_
                  refine g_aload_n O dX9_go_240 0 rfl rfl ?_
                  refine g_get O hiX9_go_X9 0 rfl rfl 13 (by decide) (by decide +kernel) rfl dX9_go_241 ?_
                  refine g_if_neB (tgt := 262) O dX9_go_244 (by decide) (fun c_69 => ?_) (fun c_69 => absurd c_69 (by decide))
                  refine g_iconst (x := (nI 0)) O dX9_go_262 (by decide +kernel) ?_
                  refine g_istore_n (L' := [(0, .ref u0), (1, .int (bB false)), (2, .int (nI (m_ + 1))), (3, .int (nI 0)), (5, .int (nI sd)), (6, .int (nI al)), (7, .int (nI 1)), (8, .int (nI (tx c1))), (9, .int r9_66)]) O dX9_go_263 rfl (by decide) [1, 2, 3, 0, 4, 5, 6, 7, 8] rfl ?_
                  refine g_iload_n O dX9_go_264 3 rfl rfl ?_
                  refine g_if_eqN (tgt := 291) O (by omega) dX9_go_265 (by decide) (fun c_70 => ?_) (fun c_70 => absurd c_70 (by decide))
                  refine g_goto (tgt := 14) O dX9_go_291 (by decide) ?_
                  refine g_iload_n O dX9_go_14 3 rfl rfl ?_
                  refine g_if_eqN (tgt := 294) O (by omega) dX9_go_15 (by decide) (fun c_71 => ?_) (fun c_71 => absurd c_71 (by decide))
                  refine g_iload_n O dX9_go_294 2 rfl rfl ?_
                  exact E 295 _ (nI (m_ + 1)) _ dX9_go_295 (by rw [he]; first | exact ⟨_, fun h => by cases h, rfl, rfl⟩ | exact ⟨_, fun _ => rfl, rfl, rfl⟩)
                | some ks =>
                  have hrb := hr9_67 ks hnb
                  have hbv := rdN_v (by omega) hnb
                  have hB := rdB_4 hsd hRA hc1 hx (show (rdN tx ty (c1 + 1) 1 20) = (some ks, (rdN tx ty (c1 + 1) 1 20).2) from Prod.ext hnb rfl)
                  generalize (rdN tx ty (c1 + 1) 1 20).2 = c2 at *
                  refine g_eq (st' := [.int (nI ks)]) (ws' := [(u0, .inr (9, [.ref u1, .ref u2, .ref u3, .ref u4, .ref u5, .ref u6, .int (nI kn), .ref u7, .int (bB ik), .ref u8, .int (nI ty), .ref u9, .int (nI c2), .int (bB false), .ref u10, .ref u11])), (u8, .inl ((TY D)[0].1, 60, .inl (nf tx)))]) (by rw [hrb]) rfl rfl ?_
                  refine g_goto (tgt := 219) O dX9_go_215 (by decide) ?_
                  refine g_istore (L' := [(0, .ref u0), (1, .int (bB false)), (2, .int (nI m_)), (3, .int (nI 1)), (5, .int (nI sd)), (6, .int (nI al)), (7, .int (nI 1)), (8, .int (nI (tx c1))), (9, .int (nI ks))]) O dX9_go_219 (by decide) [1, 2, 3, 4, 5, 6, 7, 8, 0] rfl ?_
                  refine g_iload_n O dX9_go_221 1 rfl rfl ?_
                  refine g_if_eqB (tgt := 237) O dX9_go_222 (by decide) (fun c_72 => ?_) (fun c_72 => absurd c_72 (by decide))
                  have hBs := rdB_s hB
                  refine g_iincN (L' := [(0, .ref u0), (1, .int (bB false)), (2, .int (nI (m_ + 1))), (3, .int (nI 1)), (5, .int (nI sd)), (6, .int (nI al)), (7, .int (nI 1)), (8, .int (nI (tx c1))), (9, .int (nI ks))]) O dX9_go_237 2 rfl (by decide) [1, 2, 0, 3, 4, 5, 6, 7, 8] rfl ?_
                  refine g_aload_n O dX9_go_240 0 rfl rfl ?_
                  refine g_get O hiX9_go_X9 0 rfl rfl 13 (by decide) (by decide +kernel) rfl dX9_go_241 ?_
                  refine g_if_neB (tgt := 262) O dX9_go_244 (by decide) (fun c_73 => absurd c_73 (by decide)) (fun c_73 => ?_)
                  refine g_aload_n O dX9_go_247 0 rfl rfl ?_
                  refine g_get O hiX9_go_X9 0 rfl rfl 12 (by decide) (by decide +kernel) rfl dX9_go_248 ?_
                  refine g_aload_n O dX9_go_251 0 rfl rfl ?_
                  refine g_get O hiX9_go_X9 0 rfl rfl 10 (by decide) (by decide +kernel) rfl dX9_go_252 ?_
                  refine g_icmp_geN (tgt := 262) O (by omega) (by omega) dX9_go_255 (by decide) (fun c_74 => ?_) (fun c_74 => ?_)
                  ·
                    have he := rdP_Be (f := f_ - 1) (n := m_) (fs := Fs) (fa := Fa) (fk := Fk) hB (by omega)
                    rw [show f_ - 1 + 1 = f_ by omega, hR] at he
                    refine g_iconst (x := (nI 0)) O dX9_go_262 (by decide +kernel) ?_
                    refine g_istore_n (L' := [(0, .ref u0), (1, .int (bB false)), (2, .int (nI (m_ + 1))), (3, .int (nI 0)), (5, .int (nI sd)), (6, .int (nI al)), (7, .int (nI 1)), (8, .int (nI (tx c1))), (9, .int (nI ks))]) O dX9_go_263 rfl (by decide) [1, 2, 3, 0, 4, 5, 6, 7, 8] rfl ?_
                    refine g_iload_n O dX9_go_264 3 rfl rfl ?_
                    refine g_if_eqN (tgt := 291) O (by omega) dX9_go_265 (by decide) (fun c_75 => ?_) (fun c_75 => absurd c_75 (by decide))
                    refine g_goto (tgt := 14) O dX9_go_291 (by decide) ?_
                    refine g_iload_n O dX9_go_14 3 rfl rfl ?_
                    refine g_if_eqN (tgt := 294) O (by omega) dX9_go_15 (by decide) (fun c_76 => ?_) (fun c_76 => absurd c_76 (by decide))
                    refine g_iload_n O dX9_go_294 2 rfl rfl ?_
                    exact E 295 _ (nI (m_ + 1)) _ dX9_go_295 (by rw [he]; first | exact ⟨_, fun h => by cases h, rfl, rfl⟩ | exact ⟨_, fun _ => rfl, rfl, rfl⟩)
                  ·
                    refine g_iconst (x := (nI 1)) O dX9_go_258 (by decide +kernel) ?_
                    refine g_goto (tgt := 263) O dX9_go_259 (by decide) ?_
                    refine g_istore_n (L' := [(0, .ref u0), (1, .int (bB false)), (2, .int (nI (m_ + 1))), (3, .int (nI 1)), (5, .int (nI sd)), (6, .int (nI al)), (7, .int (nI 1)), (8, .int (nI (tx c1))), (9, .int (nI ks))]) O dX9_go_263 rfl (by decide) [1, 2, 3, 0, 4, 5, 6, 7, 8] rfl ?_
                    refine g_iload_n O dX9_go_264 3 rfl rfl ?_
                    refine g_if_eqN (tgt := 291) O (by omega) dX9_go_265 (by decide) (fun c_77 => absurd c_77 (by decide)) (fun c_77 => ?_)
                    have hce : c2 < ty := by omega
                    refine g_aload_n O dX9_go_268 0 rfl rfl ?_
                    refine g_bipush (x := (nI 44)) O dX9_go_269 (by decide +kernel) ?_
                    refine g_bipush (x := (nI 44)) O dX9_go_271 (by decide +kernel) ?_
                    refine g_callV (As := [.int (nI 44), .int (nI 44)]) (wr := []) O (kX9_sign l D z u0 u1 u2 u3 u4 u5 u6 u7 u8 u9 u10 u11 kn ik ty c2 false tx 44 44 (by first | assumption | omega) (by first | assumption | omega) (by first | assumption | omega) (by first | assumption | omega) (by first | assumption | omega)) gX9_go_X9_sign rfl rfl rfl 2 (by decide +kernel) (by decide) (by decide) (q0 := 0) rfl rfl rfl [0, 1] [] rfl (by decide) rfl (by decide) (by decide) rfl rfl (Nat.le_of_ble_eq_true rfl) dX9_go_273 (fun r_78 w_79 hp => ?_)
                    obtain ⟨rfl, rfl⟩ := hp
                    refine g_eq (st' := [.int (nI (chV tx ty c2))]) (ws' := [(u0, .inr (9, [.ref u1, .ref u2, .ref u3, .ref u4, .ref u5, .ref u6, .int (nI kn), .ref u7, .int (bB ik), .ref u8, .int (nI ty), .ref u9, .int (nI (sgA tx ty c2 false 44 44)), .int (bB (sgW tx ty c2 false 44 44)), .ref u10, .ref u11])), (u8, .inl ((TY D)[0].1, 60, .inl (nf tx)))]) rfl rfl rfl ?_
                    by_cases hx44 : tx c2 = 44
                    ·
                      obtain ⟨y1, y2, y3⟩ := sg_ok (lo := 44) (hi := 44) hce (by omega) (by omega)
                      refine g_eq (ws' := [(u0, .inr (9, [.ref u1, .ref u2, .ref u3, .ref u4, .ref u5, .ref u6, .int (nI kn), .ref u7, .int (bB ik), .ref u8, .int (nI ty), .ref u9, .int (nI (c2 + 1)), .int (bB false), .ref u10, .ref u11])), (u8, .inl ((TY D)[0].1, 60, .inl (nf tx)))]) rfl rfl (by rw [y1, y2]) ?_
                      have he := rdP_Bc (f := f_ - 1) (n := m_) (fs := Fs) (fa := Fa) (fk := Fk) hB hce hx44
                      rw [show f_ - 1 + 1 = f_ by omega, hR] at he
                      refine g_istore (L' := [(0, .ref u0), (1, .int (bB false)), (2, .int (nI (m_ + 1))), (3, .int (nI 1)), (5, .int (nI sd)), (6, .int (nI al)), (7, .int (nI 1)), (8, .int (nI (tx c1))), (9, .int (nI ks)), (10, .int (nI (chV tx ty c2)))]) O dX9_go_276 (by decide) [1, 2, 3, 4, 5, 6, 7, 8, 9, 0] rfl ?_
                      refine g_aload_n O dX9_go_278 0 rfl rfl ?_
                      refine g_get O hiX9_go_X9 0 rfl rfl 13 (by decide) (by decide +kernel) rfl dX9_go_279 ?_
                      refine g_if_neB (tgt := 289) O dX9_go_282 (by decide) (fun c_80 => absurd c_80 (by decide)) (fun c_80 => ?_)
                      refine g_iconst (x := (nI 1)) O dX9_go_285 (by decide +kernel) ?_
                      refine g_goto (tgt := 290) O dX9_go_286 (by decide) ?_
                      refine g_istore_n (L' := [(0, .ref u0), (1, .int (bB false)), (2, .int (nI (m_ + 1))), (3, .int (nI 1)), (5, .int (nI sd)), (6, .int (nI al)), (7, .int (nI 1)), (8, .int (nI (tx c1))), (9, .int (nI ks)), (10, .int (nI (chV tx ty c2)))]) O dX9_go_290 rfl (by decide) [1, 2, 3, 0, 4, 5, 6, 7, 8, 9] rfl ?_
                      refine g_goto (tgt := 14) O dX9_go_291 (by decide) ?_
                      refine g_iload_n O dX9_go_14 3 rfl rfl ?_
                      refine g_if_eqN (tgt := 294) O (by omega) dX9_go_15 (by decide) (fun c_81 => absurd c_81 (by decide)) (fun c_81 => ?_)
                      refine g_locals (L' := [(0, .ref u0), (1, .int (bB false)), (2, .int (nI (m_ + 1))), (3, .int (nI 1))]) [0, 1, 2, 3] rfl ?_
                      exact ih_ (f_ - 1) (c2 + 1) (m_ + 1) (upf Fs m_ sd) (upf Fa m_ al) (upf Fk m_ ks) (by omega) (by omega) (he.symm) (by omega)
                    ·
                      have he := rdP_Bn (f := f_ - 1) (n := m_) (fs := Fs) (fa := Fa) (fk := Fk) hB hce hx44
                      rw [show f_ - 1 + 1 = f_ by omega, hR] at he
                      have hsw : sgW tx ty c2 false 44 44 = true := by cases hh : sgW tx ty c2 false 44 44; (exfalso; obtain ⟨z1, z2, z3, z4, z5⟩ := sg_t (by omega) hh; omega); rfl
                      refine g_eq (ws' := [(u0, .inr (9, [.ref u1, .ref u2, .ref u3, .ref u4, .ref u5, .ref u6, .int (nI kn), .ref u7, .int (bB ik), .ref u8, .int (nI ty), .ref u9, .int (nI c2), .int (bB true), .ref u10, .ref u11])), (u8, .inl ((TY D)[0].1, 60, .inl (nf tx)))]) rfl rfl (by rw [(sg_f hsw).2, hsw]) ?_
                      refine g_istore (L' := [(0, .ref u0), (1, .int (bB false)), (2, .int (nI (m_ + 1))), (3, .int (nI 1)), (5, .int (nI sd)), (6, .int (nI al)), (7, .int (nI 1)), (8, .int (nI (tx c1))), (9, .int (nI ks)), (10, .int (nI (chV tx ty c2)))]) O dX9_go_276 (by decide) [1, 2, 3, 4, 5, 6, 7, 8, 9, 0] rfl ?_
                      refine g_aload_n O dX9_go_278 0 rfl rfl ?_
                      refine g_get O hiX9_go_X9 0 rfl rfl 13 (by decide) (by decide +kernel) rfl dX9_go_279 ?_
                      refine g_if_neB (tgt := 289) O dX9_go_282 (by decide) (fun c_82 => ?_) (fun c_82 => absurd c_82 (by decide))
                      refine g_iconst (x := (nI 0)) O dX9_go_289 (by decide +kernel) ?_
                      refine g_istore_n (L' := [(0, .ref u0), (1, .int (bB false)), (2, .int (nI (m_ + 1))), (3, .int (nI 0)), (5, .int (nI sd)), (6, .int (nI al)), (7, .int (nI 1)), (8, .int (nI (tx c1))), (9, .int (nI ks)), (10, .int (nI (chV tx ty c2)))]) O dX9_go_290 rfl (by decide) [1, 2, 3, 0, 4, 5, 6, 7, 8, 9] rfl ?_
                      refine g_goto (tgt := 14) O dX9_go_291 (by decide) ?_
                      refine g_iload_n O dX9_go_14 3 rfl rfl ?_
                      refine g_if_eqN (tgt := 294) O (by omega) dX9_go_15 (by decide) (fun c_83 => ?_) (fun c_83 => absurd c_83 (by decide))
                      refine g_iload_n O dX9_go_294 2 rfl rfl ?_
                      exact E 295 _ (nI (m_ + 1)) _ dX9_go_295 (by rw [he]; first | exact ⟨_, fun h => by cases h, rfl, rfl⟩ | exact ⟨_, fun _ => rfl, rfl, rfl⟩)
      refine g_get O hiX9_go_X9 0 rfl rfl 12 (by decide) (by decide +kernel) rfl dX9_go_19 ?_
      refine g_aload_n O dX9_go_22 0 rfl rfl ?_
      refine g_get O hiX9_go_X9 0 rfl rfl 10 (by decide) (by decide +kernel) rfl dX9_go_23 ?_
      refine g_icmp_geN (tgt := 41) O (by omega) (by omega) dX9_go_26 (by decide) (fun c_84 => ?_) (fun c_84 => ?_)
      ·
        refine g_iconst (x := (nI 0)) O dX9_go_41 (by decide +kernel) ?_
        refine g_istore (L' := [(0, .ref u0), (1, .int (bB false)), (2, .int (nI m_)), (3, .int (nI 1)), (4, .int (nI 0))]) O dX9_go_42 (by decide) [1, 2, 3, 4, 0] rfl ?_
        refine g_iload O dX9_go_44 4 rfl ?_
        refine g_bipush (x := (nI 116)) O dX9_go_46 (by decide +kernel) ?_
        refine g_icmp_neN (tgt := 55) O (by omega) (by omega) dX9_go_48 (by decide) (fun c_85 => ?_) (fun c_85 => absurd c_85 (by decide))
        refine g_iload O dX9_go_55 4 rfl ?_
        refine g_bipush (x := (nI 114)) O dX9_go_57 (by decide +kernel) ?_
        refine g_icmp_neN (tgt := 66) O (by omega) (by omega) dX9_go_59 (by decide) (fun c_86 => ?_) (fun c_86 => absurd c_86 (by decide))
        refine g_iload O dX9_go_66 4 rfl ?_
        refine g_bipush (x := (nI 98)) O dX9_go_68 (by decide +kernel) ?_
        refine g_icmp_neN (tgt := 77) O (by omega) (by omega) dX9_go_70 (by decide) (fun c_87 => ?_) (fun c_87 => absurd c_87 (by decide))
        refine g_iload O dX9_go_77 4 rfl ?_
        refine g_bipush (x := (nI 108)) O dX9_go_79 (by decide +kernel) ?_
        refine g_icmp_neN (tgt := 88) O (by omega) (by omega) dX9_go_81 (by decide) (fun c_88 => ?_) (fun c_88 => absurd c_88 (by decide))
        refine g_bipush (x := (-5)) O dX9_go_88 (by decide +kernel) ?_
        have hsd : sdO (chO tx ty c_) = none := by first | (rw [chO_n (by omega)]; rfl) | (rw [chO_s (by omega)]; simp only [sdO, sdN]; rw [if_neg (by omega), if_neg (by omega), if_neg (by omega), if_neg (by omega)])
        refine g_eq (st' := [.int (orN (sdO (chO tx ty c_)))]) (by rw [hsd]; rfl) rfl rfl ?_
        refine g_locals (L' := [(0, .ref u0), (1, .int (bB false)), (2, .int (nI m_)), (3, .int (nI 1))]) [0, 1, 2, 3] rfl ?_
        exact J90
      ·
        have htc := htx c_ (by omega)
        refine g_aload_n O dX9_go_29 0 rfl rfl ?_
        refine g_get O hiX9_go_X9 0 rfl rfl 9 (by decide) (by decide +kernel) rfl dX9_go_30 ?_
        refine g_aload_n O dX9_go_33 0 rfl rfl ?_
        refine g_get O hiX9_go_X9 0 rfl rfl 12 (by decide) (by decide +kernel) rfl dX9_go_34 ?_
        refine g_ialdN O 1 rfl (by omega) (by omega) dX9_go_37 ?_
        refine g_goto (tgt := 42) O dX9_go_38 (by decide) ?_
        refine g_istore (L' := [(0, .ref u0), (1, .int (bB false)), (2, .int (nI m_)), (3, .int (nI 1)), (4, .int (nI (tx c_)))]) O dX9_go_42 (by decide) [1, 2, 3, 4, 0] rfl ?_
        refine g_iload O dX9_go_44 4 rfl ?_
        refine g_bipush (x := (nI 116)) O dX9_go_46 (by decide +kernel) ?_
        refine g_icmp_neN (tgt := 55) O (by omega) (by omega) dX9_go_48 (by decide) (fun c_89 => ?_) (fun c_89 => ?_)
        ·
          refine g_iload O dX9_go_55 4 rfl ?_
          refine g_bipush (x := (nI 114)) O dX9_go_57 (by decide +kernel) ?_
          refine g_icmp_neN (tgt := 66) O (by omega) (by omega) dX9_go_59 (by decide) (fun c_90 => ?_) (fun c_90 => ?_)
          ·
            refine g_iload O dX9_go_66 4 rfl ?_
            refine g_bipush (x := (nI 98)) O dX9_go_68 (by decide +kernel) ?_
            refine g_icmp_neN (tgt := 77) O (by omega) (by omega) dX9_go_70 (by decide) (fun c_91 => ?_) (fun c_91 => ?_)
            ·
              refine g_iload O dX9_go_77 4 rfl ?_
              refine g_bipush (x := (nI 108)) O dX9_go_79 (by decide +kernel) ?_
              refine g_icmp_neN (tgt := 88) O (by omega) (by omega) dX9_go_81 (by decide) (fun c_92 => ?_) (fun c_92 => ?_)
              ·
                refine g_bipush (x := (-5)) O dX9_go_88 (by decide +kernel) ?_
                have hsd : sdO (chO tx ty c_) = none := by first | (rw [chO_n (by omega)]; rfl) | (rw [chO_s (by omega)]; simp only [sdO, sdN]; rw [if_neg (by omega), if_neg (by omega), if_neg (by omega), if_neg (by omega)])
                refine g_eq (st' := [.int (orN (sdO (chO tx ty c_)))]) (by rw [hsd]; rfl) rfl rfl ?_
                refine g_locals (L' := [(0, .ref u0), (1, .int (bB false)), (2, .int (nI m_)), (3, .int (nI 1))]) [0, 1, 2, 3] rfl ?_
                exact J90
              ·
                refine g_iconst (x := (nI 3)) O dX9_go_84 (by decide +kernel) ?_
                refine g_goto (tgt := 90) O dX9_go_85 (by decide) ?_
                have hsd : sdO (chO tx ty c_) = some 3 := by rw [chO_s (by omega)]; simp only [sdO, sdN]; rw [if_neg (by omega), if_neg (by omega), if_neg (by omega), if_pos (by omega)]
                refine g_eq (st' := [.int (orN (sdO (chO tx ty c_)))]) (by rw [hsd]; rfl) rfl rfl ?_
                refine g_locals (L' := [(0, .ref u0), (1, .int (bB false)), (2, .int (nI m_)), (3, .int (nI 1))]) [0, 1, 2, 3] rfl ?_
                exact J90
            ·
              refine g_iconst (x := (nI 2)) O dX9_go_73 (by decide +kernel) ?_
              refine g_goto (tgt := 90) O dX9_go_74 (by decide) ?_
              have hsd : sdO (chO tx ty c_) = some 2 := by rw [chO_s (by omega)]; simp only [sdO, sdN]; rw [if_neg (by omega), if_neg (by omega), if_pos (by omega)]
              refine g_eq (st' := [.int (orN (sdO (chO tx ty c_)))]) (by rw [hsd]; rfl) rfl rfl ?_
              refine g_locals (L' := [(0, .ref u0), (1, .int (bB false)), (2, .int (nI m_)), (3, .int (nI 1))]) [0, 1, 2, 3] rfl ?_
              exact J90
          ·
            refine g_iconst (x := (nI 1)) O dX9_go_62 (by decide +kernel) ?_
            refine g_goto (tgt := 90) O dX9_go_63 (by decide) ?_
            have hsd : sdO (chO tx ty c_) = some 1 := by rw [chO_s (by omega)]; simp only [sdO, sdN]; rw [if_neg (by omega), if_pos (by omega)]
            refine g_eq (st' := [.int (orN (sdO (chO tx ty c_)))]) (by rw [hsd]; rfl) rfl rfl ?_
            refine g_locals (L' := [(0, .ref u0), (1, .int (bB false)), (2, .int (nI m_)), (3, .int (nI 1))]) [0, 1, 2, 3] rfl ?_
            exact J90
        ·
          refine g_iconst (x := (nI 0)) O dX9_go_51 (by decide +kernel) ?_
          refine g_goto (tgt := 90) O dX9_go_52 (by decide) ?_
          have hsd : sdO (chO tx ty c_) = some 0 := by rw [chO_s (by omega)]; simp only [sdO, sdN]; rw [if_pos (by omega)]
          refine g_eq (st' := [.int (orN (sdO (chO tx ty c_)))]) (by rw [hsd]; rfl) rfl rfl ?_
          refine g_locals (L' := [(0, .ref u0), (1, .int (bB false)), (2, .int (nI m_)), (3, .int (nI 1))]) [0, 1, 2, 3] rfl ?_
          exact J90
  exact J18 _ 60 0 0 fs fa fk (Nat.zero_le _) (by omega) (rfl) (Nat.lt_succ_self _)

set_option maxHeartbeats 4000000 in
set_option maxRecDepth 100000 in
/-- the bowings of a text -/
theorem kX9_go_t (l : Launch) (D : va_G) (z : Nat × Nat × Nat) (u0 : Nat) (u1 : Nat) (u2 : Nat) (u3 : Nat) (u4 : Nat) (u5 : Nat) (u6 : Nat) (u7 : Nat) (u8 : Nat) (u9 : Nat) (u10 : Nat) (u11 : Nat) (kn : Nat) (ik : Bool) (ty : Nat) (ta : Nat) (iw : Bool) (tx : Nat → Nat) (fs : Nat → Nat) (fa : Nat → Nat) (fk : Nat → Nat) (M : Nat → Int32) (s : SV) (hty : ty ≤ 60) (htx : ∀ j, j < ty → tx j < 65536) (hM : RM M s) (hnc : sv_nc s ≤ 4) (hok : (rdP tx ty 60 0 fs fa fk 0).1 = true) (hroom : sv_ps s + (rdP tx ty 60 0 fs fa fk 0).2.2.2.2.2 ≤ 16) : CM l yX9_go wsX9_go ({ frames := 3, cells := 0, slots := 0, locals := 69 } : Room) D z [.ref u0, .int (bB true)] [(u0, .inr (9, [.ref u1, .ref u2, .ref u3, .ref u4, .ref u5, .ref u6, .int (nI kn), .ref u7, .int (bB ik), .ref u8, .int (nI ty), .ref u9, .int (nI ta), .int (bB iw), .ref u10, .ref u11])), (u8, .inl ((TY D)[0].1, 60, .inl (nf tx))), (u5, .inl ((TY D)[0].1, 208, .inl M))] (fun r_ w_ => ∃ (M9 : Nat → Int32), (RM M9 (apS s (rdP tx ty 60 0 fs fa fk 0).2.2.1 (rdP tx ty 60 0 fs fa fk 0).2.2.2.1 (rdP tx ty 60 0 fs fa fk 0).2.2.2.2.1 (rdP tx ty 60 0 fs fa fk 0).2.2.2.2.2)) ∧ r_ = some (.int (nI ((rdP tx ty 60 0 fs fa fk 0).2.2.2.2.2))) ∧ w_ = [(u0, .inr (9, [.ref u1, .ref u2, .ref u3, .ref u4, .ref u5, .ref u6, .int (nI kn), .ref u7, .int (bB ik), .ref u8, .int (nI ty), .ref u9, .int (nI ((rdP tx ty 60 0 fs fa fk 0).2.1)), .int (bB false), .ref u10, .ref u11])), (u8, .inl ((TY D)[0].1, 60, .inl (nf tx))), (u5, .inl ((TY D)[0].1, 208, .inl M9))]) 0 0 := by
  refine CM_int (own := RX9) (cc := cX9_go) (maxL := 11) (L0 := [(0, .ref u0), (1, .int (bB true))]) (by decide) rfl rfl (Nat.le_of_ble_eq_true rfl) rfl (fun X O E => ?_)
  refine g_aload_n O dX9_go_0 0 rfl rfl ?_
  refine g_iconst (x := (nI 0)) O dX9_go_1 (by decide +kernel) ?_
  refine g_put (ws' := [(u0, .inr (9, [.ref u1, .ref u2, .ref u3, .ref u4, .ref u5, .ref u6, .int (nI kn), .ref u7, .int (bB ik), .ref u8, .int (nI ty), .ref u9, .int (nI 0), .int (bB iw), .ref u10, .ref u11])), (u8, .inl ((TY D)[0].1, 60, .inl (nf tx))), (u5, .inl ((TY D)[0].1, 208, .inl M))]) O hiX9_go_X9 tyX9 tyX9_ok nmX9 0 rfl rfl 12 (by decide) (by decide +kernel) rfl (tyX9_ok 12 (by decide)) rfl rfl (Nat.le_of_ble_eq_true rfl) dX9_go_2 rfl ?_
  refine g_aload_n O dX9_go_5 0 rfl rfl ?_
  refine g_iconst (x := (nI 0)) O dX9_go_6 (by decide +kernel) ?_
  refine g_put (ws' := [(u0, .inr (9, [.ref u1, .ref u2, .ref u3, .ref u4, .ref u5, .ref u6, .int (nI kn), .ref u7, .int (bB ik), .ref u8, .int (nI ty), .ref u9, .int (nI 0), .int (nI 0), .ref u10, .ref u11])), (u8, .inl ((TY D)[0].1, 60, .inl (nf tx))), (u5, .inl ((TY D)[0].1, 208, .inl M))]) O hiX9_go_X9 tyX9 tyX9_ok nmX9 0 rfl rfl 13 (by decide) (by decide +kernel) rfl (tyX9_ok 13 (by decide)) (by decide +kernel) (by decide +kernel) (Nat.le_of_ble_eq_true rfl) dX9_go_7 rfl ?_
  refine g_iconst (x := (nI 0)) O dX9_go_10 (by decide +kernel) ?_
  refine g_istore_n (L' := [(0, .ref u0), (1, .int (bB true)), (2, .int (nI 0))]) O dX9_go_11 rfl (by decide) [1, 2, 0] rfl ?_
  refine g_iconst (x := (nI 1)) O dX9_go_12 (by decide +kernel) ?_
  refine g_istore_n (L' := [(0, .ref u0), (1, .int (bB true)), (2, .int (nI 0)), (3, .int (nI 1))]) O dX9_go_13 rfl (by decide) [1, 2, 3, 0] rfl ?_
  refine g_iload_n O dX9_go_14 3 rfl rfl ?_
  refine g_if_eqN (tgt := 294) O (by omega) dX9_go_15 (by decide) (fun c_1 => absurd c_1 (by decide)) (fun c_1 => ?_)
  have J18 : ∀ (n_ : Nat), ∀ (f_ : Nat) (c_ : Nat) (m_ : Nat) (Fs : Nat → Nat) (Fa : Nat → Nat) (Fk : Nat → Nat) (F_ : Nat → Int32) (hcc : c_ ≤ ty) (hfu : ty < 3 * f_ + c_) (hR : rdP tx ty f_ c_ Fs Fa Fk m_ = (rdP tx ty 60 0 fs fa fk 0)) (hF : RM F_ (apS s Fs Fa Fk m_)), f_ < n_ → G X 0 0 18 [(0, .ref u0), (1, .int (bB true)), (2, .int (nI m_)), (3, .int (nI 1))] [] [(u0, .inr (9, [.ref u1, .ref u2, .ref u3, .ref u4, .ref u5, .ref u6, .int (nI kn), .ref u7, .int (bB ik), .ref u8, .int (nI ty), .ref u9, .int (nI c_), .int (bB false), .ref u10, .ref u11])), (u8, .inl ((TY D)[0].1, 60, .inl (nf tx))), (u5, .inl ((TY D)[0].1, 208, .inl F_))] := by
    intro n_
    induction n_ with
    | zero => intro f_ c_ m_ Fs Fa Fk F_ hcc hfu hR hF hm_; exact absurd hm_ (Nat.not_lt_zero _)
    | succ n_ ih_ =>
      intro f_ c_ m_ Fs Fa Fk F_ hcc hfu hR hF hm_
      have hmn : m_ + 1 ≤ (rdP tx ty 60 0 fs fa fk 0).2.2.2.2.2 := by rw [← hR]; exact rdP_ge (by rw [hR]; exact hok)
      refine g_aload_n O dX9_go_18 0 rfl rfl ?_
      have J90 : G X 0 0 90 [(0, .ref u0), (1, .int (bB true)), (2, .int (nI m_)), (3, .int (nI 1))] [.int (orN (sdO (chO tx ty c_)))] [(u0, .inr (9, [.ref u1, .ref u2, .ref u3, .ref u4, .ref u5, .ref u6, .int (nI kn), .ref u7, .int (bB ik), .ref u8, .int (nI ty), .ref u9, .int (nI c_), .int (bB false), .ref u10, .ref u11])), (u8, .inl ((TY D)[0].1, 60, .inl (nf tx))), (u5, .inl ((TY D)[0].1, 208, .inl F_))] := by
        cases hsd : sdO (chO tx ty c_) with
        | none =>
          refine g_eq (st' := [.int (-5)]) rfl rfl rfl ?_
          exfalso; have hz := rdP_B0 (f := f_ - 1) (n := m_) (fs := Fs) (fa := Fa) (fk := Fk) (rdB_0 hsd); rw [show f_ - 1 + 1 = f_ by omega, hR] at hz; rw [hz] at hok; cases hok
        | some sd =>
          have hs4 := sdO_lt hsd
          have hcl : c_ < ty := by by_cases h : c_ < ty; exact h; (rw [chO_n h] at hsd; cases hsd)
          refine g_eq (st' := [.int (nI sd)]) rfl rfl rfl ?_
          refine g_istore (L' := [(0, .ref u0), (1, .int (bB true)), (2, .int (nI m_)), (3, .int (nI 1)), (5, .int (nI sd))]) O dX9_go_90 (by decide) [1, 2, 3, 4, 0] rfl ?_
          refine g_aload_n O dX9_go_92 0 rfl rfl ?_
          refine g_aload_n O dX9_go_93 0 rfl rfl ?_
          refine g_get O hiX9_go_X9 0 rfl rfl 13 (by decide) (by decide +kernel) rfl dX9_go_94 ?_
          refine g_if_neB (tgt := 107) O dX9_go_97 (by decide) (fun c_2 => absurd c_2 (by decide)) (fun c_2 => ?_)
          refine g_iload O dX9_go_100 4 rfl ?_
          refine g_bipush (x := (-5)) O dX9_go_102 (by decide +kernel) ?_
          refine g_icmp_ne (tgt := 111) O dX9_go_104 (by decide) (fun c_3 => ?_) (fun c_3 => absurd c_3 (fun h => h (fun e => by have h2 := (nI_toInt (n := sd) (by omega)).symm.trans (congrArg Int32.toInt e); have h3 : (-5 : Int32).toInt = -5 := by decide +kernel; rw [h3] at h2; omega)))
          refine g_iconst (x := (nI 0)) O dX9_go_111 (by decide +kernel) ?_
          refine g_eq (st' := [.int (bB false), .ref u0]) rfl rfl rfl ?_
          refine g_put (ws' := [(u0, .inr (9, [.ref u1, .ref u2, .ref u3, .ref u4, .ref u5, .ref u6, .int (nI kn), .ref u7, .int (bB ik), .ref u8, .int (nI ty), .ref u9, .int (nI c_), .int (bB false), .ref u10, .ref u11])), (u8, .inl ((TY D)[0].1, 60, .inl (nf tx))), (u5, .inl ((TY D)[0].1, 208, .inl F_))]) O hiX9_go_X9 tyX9 tyX9_ok nmX9 0 rfl rfl 13 (by decide) (by decide +kernel) rfl (tyX9_ok 13 (by decide)) (bB_nn _) (bB_fit _) (Nat.le_of_ble_eq_true rfl) dX9_go_112 rfl ?_
          refine g_aload_n O dX9_go_115 0 rfl rfl ?_
          refine g_dup O dX9_go_116 rfl ?_
          refine g_get O hiX9_go_X9 0 rfl rfl 12 (by decide) (by decide +kernel) rfl dX9_go_117 ?_
          refine g_aload_n O dX9_go_120 0 rfl rfl ?_
          refine g_get O hiX9_go_X9 0 rfl rfl 13 (by decide) (by decide +kernel) rfl dX9_go_121 ?_
          refine g_if_eqB (tgt := 131) O dX9_go_124 (by decide) (fun c_4 => ?_) (fun c_4 => absurd c_4 (by decide))
          refine g_iconst (x := (nI 1)) O dX9_go_131 (by decide +kernel) ?_
          refine g_iaddN O dX9_go_132 ?_
          refine g_put (ws' := [(u0, .inr (9, [.ref u1, .ref u2, .ref u3, .ref u4, .ref u5, .ref u6, .int (nI kn), .ref u7, .int (bB ik), .ref u8, .int (nI ty), .ref u9, .int (nI (c_ + 1)), .int (bB false), .ref u10, .ref u11])), (u8, .inl ((TY D)[0].1, 60, .inl (nf tx))), (u5, .inl ((TY D)[0].1, 208, .inl F_))]) O hiX9_go_X9 tyX9 tyX9_ok nmX9 0 rfl rfl 12 (by decide) (by decide +kernel) rfl (tyX9_ok 12 (by decide)) rfl rfl (Nat.le_of_ble_eq_true rfl) dX9_go_133 rfl ?_
          refine g_aload_n O dX9_go_136 0 rfl rfl ?_
          refine g_iconst (x := (nI 0)) O dX9_go_137 (by decide +kernel) ?_
          refine g_bipush (x := (nI 11)) O dX9_go_138 (by decide +kernel) ?_
          refine g_callV (As := [.int (nI 0), .int (nI 11)]) (wr := [(u5, .inl ((TY D)[0].1, 208, .inl F_))]) O (kX9_number_o l D z u0 u1 u2 u3 u4 u5 u6 u7 u8 u9 u10 u11 kn ik ty (c_ + 1) tx 0 11 (by first | assumption | omega) (by first | assumption | omega) (by first | assumption | omega) (by first | assumption | omega) (by first | assumption | omega) (by first | assumption | omega)) gX9_go_X9_number rfl rfl rfl 2 (by decide +kernel) (by decide) (by decide) (q0 := 0) rfl rfl rfl [0, 1] [2] rfl (by decide) rfl (by decide) (by decide) rfl rfl (Nat.le_of_ble_eq_true rfl) dX9_go_140 (fun r_5 w_6 hp => ?_)
          obtain ⟨r9_7, hr9_8, rfl, rfl⟩ := hp
          refine g_eq (st' := [.int r9_7]) (ws' := [(u5, .inl ((TY D)[0].1, 208, .inl F_)), (u0, .inr (9, [.ref u1, .ref u2, .ref u3, .ref u4, .ref u5, .ref u6, .int (nI kn), .ref u7, .int (bB ik), .ref u8, .int (nI ty), .ref u9, .int (nI ((rdN tx ty (c_ + 1) 0 11).2)), .int (bB ((rdN tx ty (c_ + 1) 0 11).1.isNone)), .ref u10, .ref u11])), (u8, .inl ((TY D)[0].1, 60, .inl (nf tx)))]) rfl rfl rfl ?_
          cases hna : (rdN tx ty (c_ + 1) 0 11).1 with
          | none =>
            have hB := rdB_1 hsd (show (rdN tx ty (c_ + 1) 0 11) = (none, (rdN tx ty (c_ + 1) 0 11).2) from Prod.ext hna rfl)
            exfalso; have hz := rdP_B0 (f := f_ - 1) (n := m_) (fs := Fs) (fa := Fa) (fk := Fk) (hB); rw [show f_ - 1 + 1 = f_ by omega, hR] at hz; rw [hz] at hok; cases hok
          | some al =>
            have hra := hr9_8 al hna
            have hav := rdN_v (by omega) hna
            have hRA : (rdN tx ty (c_ + 1) 0 11) = (some al, (rdN tx ty (c_ + 1) 0 11).2) := Prod.ext hna rfl
            generalize (rdN tx ty (c_ + 1) 0 11).2 = c1 at *
            refine g_eq (st' := [.int (nI al)]) (ws' := [(u5, .inl ((TY D)[0].1, 208, .inl F_)), (u0, .inr (9, [.ref u1, .ref u2, .ref u3, .ref u4, .ref u5, .ref u6, .int (nI kn), .ref u7, .int (bB ik), .ref u8, .int (nI ty), .ref u9, .int (nI c1), .int (bB false), .ref u10, .ref u11])), (u8, .inl ((TY D)[0].1, 60, .inl (nf tx)))]) (by rw [hra]) rfl rfl ?_
            refine g_istore (L' := [(0, .ref u0), (1, .int (bB true)), (2, .int (nI m_)), (3, .int (nI 1)), (5, .int (nI sd)), (6, .int (nI al))]) O dX9_go_143 (by decide) [1, 2, 3, 4, 5, 0] rfl ?_
            refine g_aload_n O dX9_go_145 0 rfl rfl ?_
            refine g_get O hiX9_go_X9 1 rfl rfl 13 (by decide) (by decide +kernel) rfl dX9_go_146 ?_
            refine g_if_neB (tgt := 181) O dX9_go_149 (by decide) (fun c_9 => absurd c_9 (by decide)) (fun c_9 => ?_)
            refine g_aload_n O dX9_go_152 0 rfl rfl ?_
            refine g_get O hiX9_go_X9 1 rfl rfl 12 (by decide) (by decide +kernel) rfl dX9_go_153 ?_
            refine g_aload_n O dX9_go_156 0 rfl rfl ?_
            refine g_get O hiX9_go_X9 1 rfl rfl 10 (by decide) (by decide +kernel) rfl dX9_go_157 ?_
            refine g_icmp_geN (tgt := 181) O (by omega) (by omega) dX9_go_160 (by decide) (fun c_10 => ?_) (fun c_10 => ?_)
            ·
              have hB := rdB_2 hsd hRA (fun h => by omega)
              refine g_iconst (x := (nI 0)) O dX9_go_181 (by decide +kernel) ?_
              refine g_istore (L' := [(0, .ref u0), (1, .int (bB true)), (2, .int (nI m_)), (3, .int (nI 1)), (5, .int (nI sd)), (6, .int (nI al)), (7, .int (nI 0))]) O dX9_go_182 (by decide) [1, 2, 3, 4, 5, 6, 0] rfl ?_
              refine g_iload O dX9_go_184 6 rfl ?_
              refine g_if_eqN (tgt := 200) O (by omega) dX9_go_186 (by decide) (fun c_11 => ?_) (fun c_11 => absurd c_11 (by decide))
              refine g_iconst (x := (nI 0)) O dX9_go_200 (by decide +kernel) ?_
              refine g_istore (L' := [(0, .ref u0), (1, .int (bB true)), (2, .int (nI m_)), (3, .int (nI 1)), (5, .int (nI sd)), (6, .int (nI al)), (7, .int (nI 0)), (8, .int (nI 0))]) O dX9_go_201 (by decide) [1, 2, 3, 4, 5, 6, 7, 0] rfl ?_
              refine g_iload O dX9_go_203 6 rfl ?_
              refine g_if_eqN (tgt := 218) O (by omega) dX9_go_205 (by decide) (fun c_12 => ?_) (fun c_12 => absurd c_12 (by decide))
              refine g_iconst (x := (nI 1)) O dX9_go_218 (by decide +kernel) ?_
              refine g_istore (L' := [(0, .ref u0), (1, .int (bB true)), (2, .int (nI m_)), (3, .int (nI 1)), (5, .int (nI sd)), (6, .int (nI al)), (7, .int (nI 0)), (8, .int (nI 0)), (9, .int (nI 1))]) O dX9_go_219 (by decide) [1, 2, 3, 4, 5, 6, 7, 8, 0] rfl ?_
              refine g_iload_n O dX9_go_221 1 rfl rfl ?_
              refine g_if_eqB (tgt := 237) O dX9_go_222 (by decide) (fun c_13 => absurd c_13 (by decide)) (fun c_13 => ?_)
              refine g_aload_n O dX9_go_225 0 rfl rfl ?_
              refine g_iload O dX9_go_226 4 rfl ?_
              refine g_iload O dX9_go_228 5 rfl ?_
              refine g_iload O dX9_go_230 8 rfl ?_
              refine g_callV (As := [.int (nI sd), .int (nI al), .int (nI 1)]) (wr := [(u8, .inl ((TY D)[0].1, 60, .inl (nf tx)))]) O (kX9_waits l D z u0 u1 u2 u3 u4 u5 u6 u7 u8 u9 u10 u11 kn ik ty c1 false F_ (apS s Fs Fa Fk m_) sd al 1 (by first | assumption | omega) (by show sv_ps s + m_ < 16; omega) (by first | assumption | omega)) gX9_go_X9_waits rfl rfl rfl 3 (by decide +kernel) (by decide) (by decide) (q0 := 0) rfl rfl rfl [1, 0] [2] rfl (by decide) rfl (by decide) (by decide) rfl rfl (Nat.le_of_ble_eq_true rfl) dX9_go_232 (fun r_14 w_15 hp => ?_)
              obtain ⟨M9_16, hM9_17, rfl, rfl⟩ := hp
              refine g_eq (st' := [.int (nI (sv_ps (apS s Fs Fa Fk m_) + 1))]) (ws' := [(u8, .inl ((TY D)[0].1, 60, .inl (nf tx))), (u0, .inr (9, [.ref u1, .ref u2, .ref u3, .ref u4, .ref u5, .ref u6, .int (nI kn), .ref u7, .int (bB ik), .ref u8, .int (nI ty), .ref u9, .int (nI c1), .int (bB false), .ref u10, .ref u11])), (u5, .inl ((TY D)[0].1, 208, .inl M9_16))]) rfl rfl rfl ?_
              have hF9 : RM M9_16 (apS s (upf Fs m_ sd) (upf Fa m_ al) (upf Fk m_ 1) (m_ + 1)) := by simp only [apS]; rw [← apf_u, ← apf_u, ← apf_u]; exact hM9_17
              refine g_istore (L' := [(0, .ref u0), (1, .int (bB true)), (2, .int (nI m_)), (3, .int (nI 1)), (5, .int (nI sd)), (6, .int (nI al)), (7, .int (nI 0)), (8, .int (nI 0)), (9, .int (nI 1)), (10, .int (nI (sv_ps (apS s Fs Fa Fk m_) + 1)))]) O dX9_go_235 (by decide) [1, 2, 3, 4, 5, 6, 7, 8, 9, 0] rfl ?_
              have hBs := rdB_s hB
              refine g_iincN (L' := [(0, .ref u0), (1, .int (bB true)), (2, .int (nI (m_ + 1))), (3, .int (nI 1)), (5, .int (nI sd)), (6, .int (nI al)), (7, .int (nI 0)), (8, .int (nI 0)), (9, .int (nI 1)), (10, .int (nI (sv_ps (apS s Fs Fa Fk m_) + 1)))]) O dX9_go_237 2 rfl (by decide) [1, 2, 0, 3, 4, 5, 6, 7, 8, 9] rfl ?_
              refine g_aload_n O dX9_go_240 0 rfl rfl ?_
              refine g_get O hiX9_go_X9 1 rfl rfl 13 (by decide) (by decide +kernel) rfl dX9_go_241 ?_
              refine g_if_neB (tgt := 262) O dX9_go_244 (by decide) (fun c_18 => absurd c_18 (by decide)) (fun c_18 => ?_)
              refine g_aload_n O dX9_go_247 0 rfl rfl ?_
              refine g_get O hiX9_go_X9 1 rfl rfl 12 (by decide) (by decide +kernel) rfl dX9_go_248 ?_
              refine g_aload_n O dX9_go_251 0 rfl rfl ?_
              refine g_get O hiX9_go_X9 1 rfl rfl 10 (by decide) (by decide +kernel) rfl dX9_go_252 ?_
              refine g_icmp_geN (tgt := 262) O (by omega) (by omega) dX9_go_255 (by decide) (fun c_19 => ?_) (fun c_19 => ?_)
              ·
                have he := rdP_Be (f := f_ - 1) (n := m_) (fs := Fs) (fa := Fa) (fk := Fk) hB (by omega)
                rw [show f_ - 1 + 1 = f_ by omega, hR] at he
                refine g_iconst (x := (nI 0)) O dX9_go_262 (by decide +kernel) ?_
                refine g_istore_n (L' := [(0, .ref u0), (1, .int (bB true)), (2, .int (nI (m_ + 1))), (3, .int (nI 0)), (5, .int (nI sd)), (6, .int (nI al)), (7, .int (nI 0)), (8, .int (nI 0)), (9, .int (nI 1)), (10, .int (nI (sv_ps (apS s Fs Fa Fk m_) + 1)))]) O dX9_go_263 rfl (by decide) [1, 2, 3, 0, 4, 5, 6, 7, 8, 9] rfl ?_
                refine g_iload_n O dX9_go_264 3 rfl rfl ?_
                refine g_if_eqN (tgt := 291) O (by omega) dX9_go_265 (by decide) (fun c_20 => ?_) (fun c_20 => absurd c_20 (by decide))
                refine g_goto (tgt := 14) O dX9_go_291 (by decide) ?_
                refine g_iload_n O dX9_go_14 3 rfl rfl ?_
                refine g_if_eqN (tgt := 294) O (by omega) dX9_go_15 (by decide) (fun c_21 => ?_) (fun c_21 => absurd c_21 (by decide))
                refine g_iload_n O dX9_go_294 2 rfl rfl ?_
                refine g_perm (ws' := [(u0, .inr (9, [.ref u1, .ref u2, .ref u3, .ref u4, .ref u5, .ref u6, .int (nI kn), .ref u7, .int (bB ik), .ref u8, .int (nI ty), .ref u9, .int (nI c1), .int (bB false), .ref u10, .ref u11])), (u8, .inl ((TY D)[0].1, 60, .inl (nf tx))), (u5, .inl ((TY D)[0].1, 208, .inl M9_16))]) [1, 0, 2] rfl (by decide) ?_
                exact E 295 _ (nI (m_ + 1)) _ dX9_go_295 (by rw [he]; exact ⟨_, by assumption, rfl, rfl⟩)
              ·
                refine g_iconst (x := (nI 1)) O dX9_go_258 (by decide +kernel) ?_
                refine g_goto (tgt := 263) O dX9_go_259 (by decide) ?_
                refine g_istore_n (L' := [(0, .ref u0), (1, .int (bB true)), (2, .int (nI (m_ + 1))), (3, .int (nI 1)), (5, .int (nI sd)), (6, .int (nI al)), (7, .int (nI 0)), (8, .int (nI 0)), (9, .int (nI 1)), (10, .int (nI (sv_ps (apS s Fs Fa Fk m_) + 1)))]) O dX9_go_263 rfl (by decide) [1, 2, 3, 0, 4, 5, 6, 7, 8, 9] rfl ?_
                refine g_iload_n O dX9_go_264 3 rfl rfl ?_
                refine g_if_eqN (tgt := 291) O (by omega) dX9_go_265 (by decide) (fun c_22 => absurd c_22 (by decide)) (fun c_22 => ?_)
                have hce : c1 < ty := by omega
                refine g_aload_n O dX9_go_268 0 rfl rfl ?_
                refine g_bipush (x := (nI 44)) O dX9_go_269 (by decide +kernel) ?_
                refine g_bipush (x := (nI 44)) O dX9_go_271 (by decide +kernel) ?_
                refine g_callV (As := [.int (nI 44), .int (nI 44)]) (wr := [(u5, .inl ((TY D)[0].1, 208, .inl M9_16))]) O (kX9_sign l D z u0 u1 u2 u3 u4 u5 u6 u7 u8 u9 u10 u11 kn ik ty c1 false tx 44 44 (by first | assumption | omega) (by first | assumption | omega) (by first | assumption | omega) (by first | assumption | omega) (by first | assumption | omega)) gX9_go_X9_sign rfl rfl rfl 2 (by decide +kernel) (by decide) (by decide) (q0 := 0) rfl rfl rfl [1, 0] [2] rfl (by decide) rfl (by decide) (by decide) rfl rfl (Nat.le_of_ble_eq_true rfl) dX9_go_273 (fun r_23 w_24 hp => ?_)
                obtain ⟨rfl, rfl⟩ := hp
                refine g_eq (st' := [.int (nI (chV tx ty c1))]) (ws' := [(u5, .inl ((TY D)[0].1, 208, .inl M9_16)), (u0, .inr (9, [.ref u1, .ref u2, .ref u3, .ref u4, .ref u5, .ref u6, .int (nI kn), .ref u7, .int (bB ik), .ref u8, .int (nI ty), .ref u9, .int (nI (sgA tx ty c1 false 44 44)), .int (bB (sgW tx ty c1 false 44 44)), .ref u10, .ref u11])), (u8, .inl ((TY D)[0].1, 60, .inl (nf tx)))]) rfl rfl rfl ?_
                by_cases hx44 : tx c1 = 44
                ·
                  obtain ⟨y1, y2, y3⟩ := sg_ok (lo := 44) (hi := 44) hce (by omega) (by omega)
                  refine g_eq (ws' := [(u5, .inl ((TY D)[0].1, 208, .inl M9_16)), (u0, .inr (9, [.ref u1, .ref u2, .ref u3, .ref u4, .ref u5, .ref u6, .int (nI kn), .ref u7, .int (bB ik), .ref u8, .int (nI ty), .ref u9, .int (nI (c1 + 1)), .int (bB false), .ref u10, .ref u11])), (u8, .inl ((TY D)[0].1, 60, .inl (nf tx)))]) rfl rfl (by rw [y1, y2]) ?_
                  have he := rdP_Bc (f := f_ - 1) (n := m_) (fs := Fs) (fa := Fa) (fk := Fk) hB hce hx44
                  rw [show f_ - 1 + 1 = f_ by omega, hR] at he
                  refine g_istore (L' := [(0, .ref u0), (1, .int (bB true)), (2, .int (nI (m_ + 1))), (3, .int (nI 1)), (5, .int (nI sd)), (6, .int (nI al)), (7, .int (nI 0)), (8, .int (nI 0)), (9, .int (nI 1)), (10, .int (nI (chV tx ty c1)))]) O dX9_go_276 (by decide) [1, 2, 3, 4, 5, 6, 7, 8, 9, 0] rfl ?_
                  refine g_aload_n O dX9_go_278 0 rfl rfl ?_
                  refine g_get O hiX9_go_X9 1 rfl rfl 13 (by decide) (by decide +kernel) rfl dX9_go_279 ?_
                  refine g_if_neB (tgt := 289) O dX9_go_282 (by decide) (fun c_25 => absurd c_25 (by decide)) (fun c_25 => ?_)
                  refine g_iconst (x := (nI 1)) O dX9_go_285 (by decide +kernel) ?_
                  refine g_goto (tgt := 290) O dX9_go_286 (by decide) ?_
                  refine g_istore_n (L' := [(0, .ref u0), (1, .int (bB true)), (2, .int (nI (m_ + 1))), (3, .int (nI 1)), (5, .int (nI sd)), (6, .int (nI al)), (7, .int (nI 0)), (8, .int (nI 0)), (9, .int (nI 1)), (10, .int (nI (chV tx ty c1)))]) O dX9_go_290 rfl (by decide) [1, 2, 3, 0, 4, 5, 6, 7, 8, 9] rfl ?_
                  refine g_goto (tgt := 14) O dX9_go_291 (by decide) ?_
                  refine g_iload_n O dX9_go_14 3 rfl rfl ?_
                  refine g_if_eqN (tgt := 294) O (by omega) dX9_go_15 (by decide) (fun c_26 => absurd c_26 (by decide)) (fun c_26 => ?_)
                  refine g_perm (ws' := [(u0, .inr (9, [.ref u1, .ref u2, .ref u3, .ref u4, .ref u5, .ref u6, .int (nI kn), .ref u7, .int (bB ik), .ref u8, .int (nI ty), .ref u9, .int (nI (c1 + 1)), .int (bB false), .ref u10, .ref u11])), (u8, .inl ((TY D)[0].1, 60, .inl (nf tx))), (u5, .inl ((TY D)[0].1, 208, .inl M9_16))]) [1, 2, 0] rfl (by decide) ?_
                  refine g_locals (L' := [(0, .ref u0), (1, .int (bB true)), (2, .int (nI (m_ + 1))), (3, .int (nI 1))]) [0, 1, 2, 3] rfl ?_
                  exact ih_ (f_ - 1) (c1 + 1) (m_ + 1) (upf Fs m_ sd) (upf Fa m_ al) (upf Fk m_ 1) M9_16 (by omega) (by omega) (he.symm) (hF9) (by omega)
                ·
                  have he := rdP_Bn (f := f_ - 1) (n := m_) (fs := Fs) (fa := Fa) (fk := Fk) hB hce hx44
                  rw [show f_ - 1 + 1 = f_ by omega, hR] at he
                  exfalso; rw [he] at hok; cases hok
            ·
              have hc1 : c1 < ty := by omega
              have htc1 := htx c1 hc1
              refine g_aload_n O dX9_go_163 0 rfl rfl ?_
              refine g_get O hiX9_go_X9 1 rfl rfl 9 (by decide) (by decide +kernel) rfl dX9_go_164 ?_
              refine g_aload_n O dX9_go_167 0 rfl rfl ?_
              refine g_get O hiX9_go_X9 1 rfl rfl 12 (by decide) (by decide +kernel) rfl dX9_go_168 ?_
              refine g_ialdN O 2 rfl (by omega) (by omega) dX9_go_171 ?_
              refine g_bipush (x := (nI 120)) O dX9_go_172 (by decide +kernel) ?_
              refine g_icmp_neN (tgt := 181) O (by omega) (by omega) dX9_go_174 (by decide) (fun c_27 => ?_) (fun c_27 => ?_)
              ·
                have hB := rdB_2 hsd hRA (fun h => absurd h.2 c_27)
                refine g_iconst (x := (nI 0)) O dX9_go_181 (by decide +kernel) ?_
                refine g_istore (L' := [(0, .ref u0), (1, .int (bB true)), (2, .int (nI m_)), (3, .int (nI 1)), (5, .int (nI sd)), (6, .int (nI al)), (7, .int (nI 0))]) O dX9_go_182 (by decide) [1, 2, 3, 4, 5, 6, 0] rfl ?_
                refine g_iload O dX9_go_184 6 rfl ?_
                refine g_if_eqN (tgt := 200) O (by omega) dX9_go_186 (by decide) (fun c_28 => ?_) (fun c_28 => absurd c_28 (by decide))
                refine g_iconst (x := (nI 0)) O dX9_go_200 (by decide +kernel) ?_
                refine g_istore (L' := [(0, .ref u0), (1, .int (bB true)), (2, .int (nI m_)), (3, .int (nI 1)), (5, .int (nI sd)), (6, .int (nI al)), (7, .int (nI 0)), (8, .int (nI 0))]) O dX9_go_201 (by decide) [1, 2, 3, 4, 5, 6, 7, 0] rfl ?_
                refine g_iload O dX9_go_203 6 rfl ?_
                refine g_if_eqN (tgt := 218) O (by omega) dX9_go_205 (by decide) (fun c_29 => ?_) (fun c_29 => absurd c_29 (by decide))
                refine g_iconst (x := (nI 1)) O dX9_go_218 (by decide +kernel) ?_
                refine g_istore (L' := [(0, .ref u0), (1, .int (bB true)), (2, .int (nI m_)), (3, .int (nI 1)), (5, .int (nI sd)), (6, .int (nI al)), (7, .int (nI 0)), (8, .int (nI 0)), (9, .int (nI 1))]) O dX9_go_219 (by decide) [1, 2, 3, 4, 5, 6, 7, 8, 0] rfl ?_
                refine g_iload_n O dX9_go_221 1 rfl rfl ?_
                refine g_if_eqB (tgt := 237) O dX9_go_222 (by decide) (fun c_30 => absurd c_30 (by decide)) (fun c_30 => ?_)
                refine g_aload_n O dX9_go_225 0 rfl rfl ?_
                refine g_iload O dX9_go_226 4 rfl ?_
                refine g_iload O dX9_go_228 5 rfl ?_
                refine g_iload O dX9_go_230 8 rfl ?_
                refine g_callV (As := [.int (nI sd), .int (nI al), .int (nI 1)]) (wr := [(u8, .inl ((TY D)[0].1, 60, .inl (nf tx)))]) O (kX9_waits l D z u0 u1 u2 u3 u4 u5 u6 u7 u8 u9 u10 u11 kn ik ty c1 false F_ (apS s Fs Fa Fk m_) sd al 1 (by first | assumption | omega) (by show sv_ps s + m_ < 16; omega) (by first | assumption | omega)) gX9_go_X9_waits rfl rfl rfl 3 (by decide +kernel) (by decide) (by decide) (q0 := 0) rfl rfl rfl [1, 0] [2] rfl (by decide) rfl (by decide) (by decide) rfl rfl (Nat.le_of_ble_eq_true rfl) dX9_go_232 (fun r_31 w_32 hp => ?_)
                obtain ⟨M9_33, hM9_34, rfl, rfl⟩ := hp
                refine g_eq (st' := [.int (nI (sv_ps (apS s Fs Fa Fk m_) + 1))]) (ws' := [(u8, .inl ((TY D)[0].1, 60, .inl (nf tx))), (u0, .inr (9, [.ref u1, .ref u2, .ref u3, .ref u4, .ref u5, .ref u6, .int (nI kn), .ref u7, .int (bB ik), .ref u8, .int (nI ty), .ref u9, .int (nI c1), .int (bB false), .ref u10, .ref u11])), (u5, .inl ((TY D)[0].1, 208, .inl M9_33))]) rfl rfl rfl ?_
                have hF9 : RM M9_33 (apS s (upf Fs m_ sd) (upf Fa m_ al) (upf Fk m_ 1) (m_ + 1)) := by simp only [apS]; rw [← apf_u, ← apf_u, ← apf_u]; exact hM9_34
                refine g_istore (L' := [(0, .ref u0), (1, .int (bB true)), (2, .int (nI m_)), (3, .int (nI 1)), (5, .int (nI sd)), (6, .int (nI al)), (7, .int (nI 0)), (8, .int (nI 0)), (9, .int (nI 1)), (10, .int (nI (sv_ps (apS s Fs Fa Fk m_) + 1)))]) O dX9_go_235 (by decide) [1, 2, 3, 4, 5, 6, 7, 8, 9, 0] rfl ?_
                have hBs := rdB_s hB
                refine g_iincN (L' := [(0, .ref u0), (1, .int (bB true)), (2, .int (nI (m_ + 1))), (3, .int (nI 1)), (5, .int (nI sd)), (6, .int (nI al)), (7, .int (nI 0)), (8, .int (nI 0)), (9, .int (nI 1)), (10, .int (nI (sv_ps (apS s Fs Fa Fk m_) + 1)))]) O dX9_go_237 2 rfl (by decide) [1, 2, 0, 3, 4, 5, 6, 7, 8, 9] rfl ?_
                refine g_aload_n O dX9_go_240 0 rfl rfl ?_
                refine g_get O hiX9_go_X9 1 rfl rfl 13 (by decide) (by decide +kernel) rfl dX9_go_241 ?_
                refine g_if_neB (tgt := 262) O dX9_go_244 (by decide) (fun c_35 => absurd c_35 (by decide)) (fun c_35 => ?_)
                refine g_aload_n O dX9_go_247 0 rfl rfl ?_
                refine g_get O hiX9_go_X9 1 rfl rfl 12 (by decide) (by decide +kernel) rfl dX9_go_248 ?_
                refine g_aload_n O dX9_go_251 0 rfl rfl ?_
                refine g_get O hiX9_go_X9 1 rfl rfl 10 (by decide) (by decide +kernel) rfl dX9_go_252 ?_
                refine g_icmp_geN (tgt := 262) O (by omega) (by omega) dX9_go_255 (by decide) (fun c_36 => ?_) (fun c_36 => ?_)
                ·
                  have he := rdP_Be (f := f_ - 1) (n := m_) (fs := Fs) (fa := Fa) (fk := Fk) hB (by omega)
                  rw [show f_ - 1 + 1 = f_ by omega, hR] at he
                  refine g_iconst (x := (nI 0)) O dX9_go_262 (by decide +kernel) ?_
                  refine g_istore_n (L' := [(0, .ref u0), (1, .int (bB true)), (2, .int (nI (m_ + 1))), (3, .int (nI 0)), (5, .int (nI sd)), (6, .int (nI al)), (7, .int (nI 0)), (8, .int (nI 0)), (9, .int (nI 1)), (10, .int (nI (sv_ps (apS s Fs Fa Fk m_) + 1)))]) O dX9_go_263 rfl (by decide) [1, 2, 3, 0, 4, 5, 6, 7, 8, 9] rfl ?_
                  refine g_iload_n O dX9_go_264 3 rfl rfl ?_
                  refine g_if_eqN (tgt := 291) O (by omega) dX9_go_265 (by decide) (fun c_37 => ?_) (fun c_37 => absurd c_37 (by decide))
                  refine g_goto (tgt := 14) O dX9_go_291 (by decide) ?_
                  refine g_iload_n O dX9_go_14 3 rfl rfl ?_
                  refine g_if_eqN (tgt := 294) O (by omega) dX9_go_15 (by decide) (fun c_38 => ?_) (fun c_38 => absurd c_38 (by decide))
                  refine g_iload_n O dX9_go_294 2 rfl rfl ?_
                  refine g_perm (ws' := [(u0, .inr (9, [.ref u1, .ref u2, .ref u3, .ref u4, .ref u5, .ref u6, .int (nI kn), .ref u7, .int (bB ik), .ref u8, .int (nI ty), .ref u9, .int (nI c1), .int (bB false), .ref u10, .ref u11])), (u8, .inl ((TY D)[0].1, 60, .inl (nf tx))), (u5, .inl ((TY D)[0].1, 208, .inl M9_33))]) [1, 0, 2] rfl (by decide) ?_
                  exact E 295 _ (nI (m_ + 1)) _ dX9_go_295 (by rw [he]; exact ⟨_, by assumption, rfl, rfl⟩)
                ·
                  refine g_iconst (x := (nI 1)) O dX9_go_258 (by decide +kernel) ?_
                  refine g_goto (tgt := 263) O dX9_go_259 (by decide) ?_
                  refine g_istore_n (L' := [(0, .ref u0), (1, .int (bB true)), (2, .int (nI (m_ + 1))), (3, .int (nI 1)), (5, .int (nI sd)), (6, .int (nI al)), (7, .int (nI 0)), (8, .int (nI 0)), (9, .int (nI 1)), (10, .int (nI (sv_ps (apS s Fs Fa Fk m_) + 1)))]) O dX9_go_263 rfl (by decide) [1, 2, 3, 0, 4, 5, 6, 7, 8, 9] rfl ?_
                  refine g_iload_n O dX9_go_264 3 rfl rfl ?_
                  refine g_if_eqN (tgt := 291) O (by omega) dX9_go_265 (by decide) (fun c_39 => absurd c_39 (by decide)) (fun c_39 => ?_)
                  have hce : c1 < ty := by omega
                  refine g_aload_n O dX9_go_268 0 rfl rfl ?_
                  refine g_bipush (x := (nI 44)) O dX9_go_269 (by decide +kernel) ?_
                  refine g_bipush (x := (nI 44)) O dX9_go_271 (by decide +kernel) ?_
                  refine g_callV (As := [.int (nI 44), .int (nI 44)]) (wr := [(u5, .inl ((TY D)[0].1, 208, .inl M9_33))]) O (kX9_sign l D z u0 u1 u2 u3 u4 u5 u6 u7 u8 u9 u10 u11 kn ik ty c1 false tx 44 44 (by first | assumption | omega) (by first | assumption | omega) (by first | assumption | omega) (by first | assumption | omega) (by first | assumption | omega)) gX9_go_X9_sign rfl rfl rfl 2 (by decide +kernel) (by decide) (by decide) (q0 := 0) rfl rfl rfl [1, 0] [2] rfl (by decide) rfl (by decide) (by decide) rfl rfl (Nat.le_of_ble_eq_true rfl) dX9_go_273 (fun r_40 w_41 hp => ?_)
                  obtain ⟨rfl, rfl⟩ := hp
                  refine g_eq (st' := [.int (nI (chV tx ty c1))]) (ws' := [(u5, .inl ((TY D)[0].1, 208, .inl M9_33)), (u0, .inr (9, [.ref u1, .ref u2, .ref u3, .ref u4, .ref u5, .ref u6, .int (nI kn), .ref u7, .int (bB ik), .ref u8, .int (nI ty), .ref u9, .int (nI (sgA tx ty c1 false 44 44)), .int (bB (sgW tx ty c1 false 44 44)), .ref u10, .ref u11])), (u8, .inl ((TY D)[0].1, 60, .inl (nf tx)))]) rfl rfl rfl ?_
                  by_cases hx44 : tx c1 = 44
                  ·
                    obtain ⟨y1, y2, y3⟩ := sg_ok (lo := 44) (hi := 44) hce (by omega) (by omega)
                    refine g_eq (ws' := [(u5, .inl ((TY D)[0].1, 208, .inl M9_33)), (u0, .inr (9, [.ref u1, .ref u2, .ref u3, .ref u4, .ref u5, .ref u6, .int (nI kn), .ref u7, .int (bB ik), .ref u8, .int (nI ty), .ref u9, .int (nI (c1 + 1)), .int (bB false), .ref u10, .ref u11])), (u8, .inl ((TY D)[0].1, 60, .inl (nf tx)))]) rfl rfl (by rw [y1, y2]) ?_
                    have he := rdP_Bc (f := f_ - 1) (n := m_) (fs := Fs) (fa := Fa) (fk := Fk) hB hce hx44
                    rw [show f_ - 1 + 1 = f_ by omega, hR] at he
                    refine g_istore (L' := [(0, .ref u0), (1, .int (bB true)), (2, .int (nI (m_ + 1))), (3, .int (nI 1)), (5, .int (nI sd)), (6, .int (nI al)), (7, .int (nI 0)), (8, .int (nI 0)), (9, .int (nI 1)), (10, .int (nI (chV tx ty c1)))]) O dX9_go_276 (by decide) [1, 2, 3, 4, 5, 6, 7, 8, 9, 0] rfl ?_
                    refine g_aload_n O dX9_go_278 0 rfl rfl ?_
                    refine g_get O hiX9_go_X9 1 rfl rfl 13 (by decide) (by decide +kernel) rfl dX9_go_279 ?_
                    refine g_if_neB (tgt := 289) O dX9_go_282 (by decide) (fun c_42 => absurd c_42 (by decide)) (fun c_42 => ?_)
                    refine g_iconst (x := (nI 1)) O dX9_go_285 (by decide +kernel) ?_
                    refine g_goto (tgt := 290) O dX9_go_286 (by decide) ?_
                    refine g_istore_n (L' := [(0, .ref u0), (1, .int (bB true)), (2, .int (nI (m_ + 1))), (3, .int (nI 1)), (5, .int (nI sd)), (6, .int (nI al)), (7, .int (nI 0)), (8, .int (nI 0)), (9, .int (nI 1)), (10, .int (nI (chV tx ty c1)))]) O dX9_go_290 rfl (by decide) [1, 2, 3, 0, 4, 5, 6, 7, 8, 9] rfl ?_
                    refine g_goto (tgt := 14) O dX9_go_291 (by decide) ?_
                    refine g_iload_n O dX9_go_14 3 rfl rfl ?_
                    refine g_if_eqN (tgt := 294) O (by omega) dX9_go_15 (by decide) (fun c_43 => absurd c_43 (by decide)) (fun c_43 => ?_)
                    refine g_perm (ws' := [(u0, .inr (9, [.ref u1, .ref u2, .ref u3, .ref u4, .ref u5, .ref u6, .int (nI kn), .ref u7, .int (bB ik), .ref u8, .int (nI ty), .ref u9, .int (nI (c1 + 1)), .int (bB false), .ref u10, .ref u11])), (u8, .inl ((TY D)[0].1, 60, .inl (nf tx))), (u5, .inl ((TY D)[0].1, 208, .inl M9_33))]) [1, 2, 0] rfl (by decide) ?_
                    refine g_locals (L' := [(0, .ref u0), (1, .int (bB true)), (2, .int (nI (m_ + 1))), (3, .int (nI 1))]) [0, 1, 2, 3] rfl ?_
                    exact ih_ (f_ - 1) (c1 + 1) (m_ + 1) (upf Fs m_ sd) (upf Fa m_ al) (upf Fk m_ 1) M9_33 (by omega) (by omega) (he.symm) (hF9) (by omega)
                  ·
                    have he := rdP_Bn (f := f_ - 1) (n := m_) (fs := Fs) (fa := Fa) (fk := Fk) hB hce hx44
                    rw [show f_ - 1 + 1 = f_ by omega, hR] at he
                    exfalso; rw [he] at hok; cases hok
              ·
                have hx := c_27
                refine g_iconst (x := (nI 1)) O dX9_go_177 (by decide +kernel) ?_
                refine g_goto (tgt := 182) O dX9_go_178 (by decide) ?_
                refine g_istore (L' := [(0, .ref u0), (1, .int (bB true)), (2, .int (nI m_)), (3, .int (nI 1)), (5, .int (nI sd)), (6, .int (nI al)), (7, .int (nI 1))]) O dX9_go_182 (by decide) [1, 2, 3, 4, 5, 6, 0] rfl ?_
                refine g_iload O dX9_go_184 6 rfl ?_
                refine g_if_eqN (tgt := 200) O (by omega) dX9_go_186 (by decide) (fun c_44 => absurd c_44 (by decide)) (fun c_44 => ?_)
                refine g_aload_n O dX9_go_189 0 rfl rfl ?_
                refine g_bipush (x := (nI 120)) O dX9_go_190 (by decide +kernel) ?_
                refine g_bipush (x := (nI 120)) O dX9_go_192 (by decide +kernel) ?_
                refine g_callV (As := [.int (nI 120), .int (nI 120)]) (wr := [(u5, .inl ((TY D)[0].1, 208, .inl F_))]) O (kX9_sign l D z u0 u1 u2 u3 u4 u5 u6 u7 u8 u9 u10 u11 kn ik ty c1 false tx 120 120 (by first | assumption | omega) (by first | assumption | omega) (by first | assumption | omega) (by first | assumption | omega) (by first | assumption | omega)) gX9_go_X9_sign rfl rfl rfl 2 (by decide +kernel) (by decide) (by decide) (q0 := 0) rfl rfl rfl [1, 2] [0] rfl (by decide) rfl (by decide) (by decide) rfl rfl (Nat.le_of_ble_eq_true rfl) dX9_go_194 (fun r_45 w_46 hp => ?_)
                obtain ⟨rfl, rfl⟩ := hp
                refine g_eq (st' := [.int (nI (chV tx ty c1))]) (ws' := [(u5, .inl ((TY D)[0].1, 208, .inl F_)), (u0, .inr (9, [.ref u1, .ref u2, .ref u3, .ref u4, .ref u5, .ref u6, .int (nI kn), .ref u7, .int (bB ik), .ref u8, .int (nI ty), .ref u9, .int (nI (sgA tx ty c1 false 120 120)), .int (bB (sgW tx ty c1 false 120 120)), .ref u10, .ref u11])), (u8, .inl ((TY D)[0].1, 60, .inl (nf tx)))]) rfl rfl rfl ?_
                obtain ⟨v1, v2, v3⟩ := sg_ok (lo := 120) (hi := 120) hc1 (by omega) (by omega)
                refine g_eq (st' := [.int (nI (tx c1))]) (ws' := [(u5, .inl ((TY D)[0].1, 208, .inl F_)), (u0, .inr (9, [.ref u1, .ref u2, .ref u3, .ref u4, .ref u5, .ref u6, .int (nI kn), .ref u7, .int (bB ik), .ref u8, .int (nI ty), .ref u9, .int (nI (c1 + 1)), .int (bB false), .ref u10, .ref u11])), (u8, .inl ((TY D)[0].1, 60, .inl (nf tx)))]) (by rw [v3]) rfl (by rw [v1, v2]) ?_
                refine g_goto (tgt := 201) O dX9_go_197 (by decide) ?_
                refine g_istore (L' := [(0, .ref u0), (1, .int (bB true)), (2, .int (nI m_)), (3, .int (nI 1)), (5, .int (nI sd)), (6, .int (nI al)), (7, .int (nI 1)), (8, .int (nI (tx c1)))]) O dX9_go_201 (by decide) [1, 2, 3, 4, 5, 6, 7, 0] rfl ?_
                refine g_iload O dX9_go_203 6 rfl ?_
                refine g_if_eqN (tgt := 218) O (by omega) dX9_go_205 (by decide) (fun c_47 => absurd c_47 (by decide)) (fun c_47 => ?_)
                refine g_aload_n O dX9_go_208 0 rfl rfl ?_
                refine g_iconst (x := (nI 1)) O dX9_go_209 (by decide +kernel) ?_
                refine g_bipush (x := (nI 20)) O dX9_go_210 (by decide +kernel) ?_
                refine g_callV (As := [.int (nI 1), .int (nI 20)]) (wr := [(u5, .inl ((TY D)[0].1, 208, .inl F_))]) O (kX9_number_o l D z u0 u1 u2 u3 u4 u5 u6 u7 u8 u9 u10 u11 kn ik ty (c1 + 1) tx 1 20 (by first | assumption | omega) (by first | assumption | omega) (by first | assumption | omega) (by first | assumption | omega) (by first | assumption | omega) (by first | assumption | omega)) gX9_go_X9_number rfl rfl rfl 2 (by decide +kernel) (by decide) (by decide) (q0 := 0) rfl rfl rfl [1, 2] [0] rfl (by decide) rfl (by decide) (by decide) rfl rfl (Nat.le_of_ble_eq_true rfl) dX9_go_212 (fun r_48 w_49 hp => ?_)
                obtain ⟨r9_50, hr9_51, rfl, rfl⟩ := hp
                refine g_eq (st' := [.int r9_50]) (ws' := [(u5, .inl ((TY D)[0].1, 208, .inl F_)), (u0, .inr (9, [.ref u1, .ref u2, .ref u3, .ref u4, .ref u5, .ref u6, .int (nI kn), .ref u7, .int (bB ik), .ref u8, .int (nI ty), .ref u9, .int (nI ((rdN tx ty (c1 + 1) 1 20).2)), .int (bB ((rdN tx ty (c1 + 1) 1 20).1.isNone)), .ref u10, .ref u11])), (u8, .inl ((TY D)[0].1, 60, .inl (nf tx)))]) rfl rfl rfl ?_
                cases hnb : (rdN tx ty (c1 + 1) 1 20).1 with
                | none =>
                  have hB := rdB_3 hsd hRA hc1 hx (show (rdN tx ty (c1 + 1) 1 20) = (none, (rdN tx ty (c1 + 1) 1 20).2) from Prod.ext hnb rfl)
                  exfalso; have hz := rdP_B0 (f := f_ - 1) (n := m_) (fs := Fs) (fa := Fa) (fk := Fk) (hB); rw [show f_ - 1 + 1 = f_ by omega, hR] at hz; rw [hz] at hok; cases hok
                | some ks =>
                  have hrb := hr9_51 ks hnb
                  have hbv := rdN_v (by omega) hnb
                  have hB := rdB_4 hsd hRA hc1 hx (show (rdN tx ty (c1 + 1) 1 20) = (some ks, (rdN tx ty (c1 + 1) 1 20).2) from Prod.ext hnb rfl)
                  generalize (rdN tx ty (c1 + 1) 1 20).2 = c2 at *
                  refine g_eq (st' := [.int (nI ks)]) (ws' := [(u5, .inl ((TY D)[0].1, 208, .inl F_)), (u0, .inr (9, [.ref u1, .ref u2, .ref u3, .ref u4, .ref u5, .ref u6, .int (nI kn), .ref u7, .int (bB ik), .ref u8, .int (nI ty), .ref u9, .int (nI c2), .int (bB false), .ref u10, .ref u11])), (u8, .inl ((TY D)[0].1, 60, .inl (nf tx)))]) (by rw [hrb]) rfl rfl ?_
                  refine g_goto (tgt := 219) O dX9_go_215 (by decide) ?_
                  refine g_istore (L' := [(0, .ref u0), (1, .int (bB true)), (2, .int (nI m_)), (3, .int (nI 1)), (5, .int (nI sd)), (6, .int (nI al)), (7, .int (nI 1)), (8, .int (nI (tx c1))), (9, .int (nI ks))]) O dX9_go_219 (by decide) [1, 2, 3, 4, 5, 6, 7, 8, 0] rfl ?_
                  refine g_iload_n O dX9_go_221 1 rfl rfl ?_
                  refine g_if_eqB (tgt := 237) O dX9_go_222 (by decide) (fun c_52 => absurd c_52 (by decide)) (fun c_52 => ?_)
                  refine g_aload_n O dX9_go_225 0 rfl rfl ?_
                  refine g_iload O dX9_go_226 4 rfl ?_
                  refine g_iload O dX9_go_228 5 rfl ?_
                  refine g_iload O dX9_go_230 8 rfl ?_
                  refine g_callV (As := [.int (nI sd), .int (nI al), .int (nI ks)]) (wr := [(u8, .inl ((TY D)[0].1, 60, .inl (nf tx)))]) O (kX9_waits l D z u0 u1 u2 u3 u4 u5 u6 u7 u8 u9 u10 u11 kn ik ty c2 false F_ (apS s Fs Fa Fk m_) sd al ks (by first | assumption | omega) (by show sv_ps s + m_ < 16; omega) (by first | assumption | omega)) gX9_go_X9_waits rfl rfl rfl 3 (by decide +kernel) (by decide) (by decide) (q0 := 0) rfl rfl rfl [1, 0] [2] rfl (by decide) rfl (by decide) (by decide) rfl rfl (Nat.le_of_ble_eq_true rfl) dX9_go_232 (fun r_53 w_54 hp => ?_)
                  obtain ⟨M9_55, hM9_56, rfl, rfl⟩ := hp
                  refine g_eq (st' := [.int (nI (sv_ps (apS s Fs Fa Fk m_) + 1))]) (ws' := [(u8, .inl ((TY D)[0].1, 60, .inl (nf tx))), (u0, .inr (9, [.ref u1, .ref u2, .ref u3, .ref u4, .ref u5, .ref u6, .int (nI kn), .ref u7, .int (bB ik), .ref u8, .int (nI ty), .ref u9, .int (nI c2), .int (bB false), .ref u10, .ref u11])), (u5, .inl ((TY D)[0].1, 208, .inl M9_55))]) rfl rfl rfl ?_
                  have hF9 : RM M9_55 (apS s (upf Fs m_ sd) (upf Fa m_ al) (upf Fk m_ ks) (m_ + 1)) := by simp only [apS]; rw [← apf_u, ← apf_u, ← apf_u]; exact hM9_56
                  refine g_istore (L' := [(0, .ref u0), (1, .int (bB true)), (2, .int (nI m_)), (3, .int (nI 1)), (5, .int (nI sd)), (6, .int (nI al)), (7, .int (nI 1)), (8, .int (nI (tx c1))), (9, .int (nI ks)), (10, .int (nI (sv_ps (apS s Fs Fa Fk m_) + 1)))]) O dX9_go_235 (by decide) [1, 2, 3, 4, 5, 6, 7, 8, 9, 0] rfl ?_
                  have hBs := rdB_s hB
                  refine g_iincN (L' := [(0, .ref u0), (1, .int (bB true)), (2, .int (nI (m_ + 1))), (3, .int (nI 1)), (5, .int (nI sd)), (6, .int (nI al)), (7, .int (nI 1)), (8, .int (nI (tx c1))), (9, .int (nI ks)), (10, .int (nI (sv_ps (apS s Fs Fa Fk m_) + 1)))]) O dX9_go_237 2 rfl (by decide) [1, 2, 0, 3, 4, 5, 6, 7, 8, 9] rfl ?_
                  refine g_aload_n O dX9_go_240 0 rfl rfl ?_
                  refine g_get O hiX9_go_X9 1 rfl rfl 13 (by decide) (by decide +kernel) rfl dX9_go_241 ?_
                  refine g_if_neB (tgt := 262) O dX9_go_244 (by decide) (fun c_57 => absurd c_57 (by decide)) (fun c_57 => ?_)
                  refine g_aload_n O dX9_go_247 0 rfl rfl ?_
                  refine g_get O hiX9_go_X9 1 rfl rfl 12 (by decide) (by decide +kernel) rfl dX9_go_248 ?_
                  refine g_aload_n O dX9_go_251 0 rfl rfl ?_
                  refine g_get O hiX9_go_X9 1 rfl rfl 10 (by decide) (by decide +kernel) rfl dX9_go_252 ?_
                  refine g_icmp_geN (tgt := 262) O (by omega) (by omega) dX9_go_255 (by decide) (fun c_58 => ?_) (fun c_58 => ?_)
                  ·
                    have he := rdP_Be (f := f_ - 1) (n := m_) (fs := Fs) (fa := Fa) (fk := Fk) hB (by omega)
                    rw [show f_ - 1 + 1 = f_ by omega, hR] at he
                    refine g_iconst (x := (nI 0)) O dX9_go_262 (by decide +kernel) ?_
                    refine g_istore_n (L' := [(0, .ref u0), (1, .int (bB true)), (2, .int (nI (m_ + 1))), (3, .int (nI 0)), (5, .int (nI sd)), (6, .int (nI al)), (7, .int (nI 1)), (8, .int (nI (tx c1))), (9, .int (nI ks)), (10, .int (nI (sv_ps (apS s Fs Fa Fk m_) + 1)))]) O dX9_go_263 rfl (by decide) [1, 2, 3, 0, 4, 5, 6, 7, 8, 9] rfl ?_
                    refine g_iload_n O dX9_go_264 3 rfl rfl ?_
                    refine g_if_eqN (tgt := 291) O (by omega) dX9_go_265 (by decide) (fun c_59 => ?_) (fun c_59 => absurd c_59 (by decide))
                    refine g_goto (tgt := 14) O dX9_go_291 (by decide) ?_
                    refine g_iload_n O dX9_go_14 3 rfl rfl ?_
                    refine g_if_eqN (tgt := 294) O (by omega) dX9_go_15 (by decide) (fun c_60 => ?_) (fun c_60 => absurd c_60 (by decide))
                    refine g_iload_n O dX9_go_294 2 rfl rfl ?_
                    refine g_perm (ws' := [(u0, .inr (9, [.ref u1, .ref u2, .ref u3, .ref u4, .ref u5, .ref u6, .int (nI kn), .ref u7, .int (bB ik), .ref u8, .int (nI ty), .ref u9, .int (nI c2), .int (bB false), .ref u10, .ref u11])), (u8, .inl ((TY D)[0].1, 60, .inl (nf tx))), (u5, .inl ((TY D)[0].1, 208, .inl M9_55))]) [1, 0, 2] rfl (by decide) ?_
                    exact E 295 _ (nI (m_ + 1)) _ dX9_go_295 (by rw [he]; exact ⟨_, by assumption, rfl, rfl⟩)
                  ·
                    refine g_iconst (x := (nI 1)) O dX9_go_258 (by decide +kernel) ?_
                    refine g_goto (tgt := 263) O dX9_go_259 (by decide) ?_
                    refine g_istore_n (L' := [(0, .ref u0), (1, .int (bB true)), (2, .int (nI (m_ + 1))), (3, .int (nI 1)), (5, .int (nI sd)), (6, .int (nI al)), (7, .int (nI 1)), (8, .int (nI (tx c1))), (9, .int (nI ks)), (10, .int (nI (sv_ps (apS s Fs Fa Fk m_) + 1)))]) O dX9_go_263 rfl (by decide) [1, 2, 3, 0, 4, 5, 6, 7, 8, 9] rfl ?_
                    refine g_iload_n O dX9_go_264 3 rfl rfl ?_
                    refine g_if_eqN (tgt := 291) O (by omega) dX9_go_265 (by decide) (fun c_61 => absurd c_61 (by decide)) (fun c_61 => ?_)
                    have hce : c2 < ty := by omega
                    refine g_aload_n O dX9_go_268 0 rfl rfl ?_
                    refine g_bipush (x := (nI 44)) O dX9_go_269 (by decide +kernel) ?_
                    refine g_bipush (x := (nI 44)) O dX9_go_271 (by decide +kernel) ?_
                    refine g_callV (As := [.int (nI 44), .int (nI 44)]) (wr := [(u5, .inl ((TY D)[0].1, 208, .inl M9_55))]) O (kX9_sign l D z u0 u1 u2 u3 u4 u5 u6 u7 u8 u9 u10 u11 kn ik ty c2 false tx 44 44 (by first | assumption | omega) (by first | assumption | omega) (by first | assumption | omega) (by first | assumption | omega) (by first | assumption | omega)) gX9_go_X9_sign rfl rfl rfl 2 (by decide +kernel) (by decide) (by decide) (q0 := 0) rfl rfl rfl [1, 0] [2] rfl (by decide) rfl (by decide) (by decide) rfl rfl (Nat.le_of_ble_eq_true rfl) dX9_go_273 (fun r_62 w_63 hp => ?_)
                    obtain ⟨rfl, rfl⟩ := hp
                    refine g_eq (st' := [.int (nI (chV tx ty c2))]) (ws' := [(u5, .inl ((TY D)[0].1, 208, .inl M9_55)), (u0, .inr (9, [.ref u1, .ref u2, .ref u3, .ref u4, .ref u5, .ref u6, .int (nI kn), .ref u7, .int (bB ik), .ref u8, .int (nI ty), .ref u9, .int (nI (sgA tx ty c2 false 44 44)), .int (bB (sgW tx ty c2 false 44 44)), .ref u10, .ref u11])), (u8, .inl ((TY D)[0].1, 60, .inl (nf tx)))]) rfl rfl rfl ?_
                    by_cases hx44 : tx c2 = 44
                    ·
                      obtain ⟨y1, y2, y3⟩ := sg_ok (lo := 44) (hi := 44) hce (by omega) (by omega)
                      refine g_eq (ws' := [(u5, .inl ((TY D)[0].1, 208, .inl M9_55)), (u0, .inr (9, [.ref u1, .ref u2, .ref u3, .ref u4, .ref u5, .ref u6, .int (nI kn), .ref u7, .int (bB ik), .ref u8, .int (nI ty), .ref u9, .int (nI (c2 + 1)), .int (bB false), .ref u10, .ref u11])), (u8, .inl ((TY D)[0].1, 60, .inl (nf tx)))]) rfl rfl (by rw [y1, y2]) ?_
                      have he := rdP_Bc (f := f_ - 1) (n := m_) (fs := Fs) (fa := Fa) (fk := Fk) hB hce hx44
                      rw [show f_ - 1 + 1 = f_ by omega, hR] at he
                      refine g_istore (L' := [(0, .ref u0), (1, .int (bB true)), (2, .int (nI (m_ + 1))), (3, .int (nI 1)), (5, .int (nI sd)), (6, .int (nI al)), (7, .int (nI 1)), (8, .int (nI (tx c1))), (9, .int (nI ks)), (10, .int (nI (chV tx ty c2)))]) O dX9_go_276 (by decide) [1, 2, 3, 4, 5, 6, 7, 8, 9, 0] rfl ?_
                      refine g_aload_n O dX9_go_278 0 rfl rfl ?_
                      refine g_get O hiX9_go_X9 1 rfl rfl 13 (by decide) (by decide +kernel) rfl dX9_go_279 ?_
                      refine g_if_neB (tgt := 289) O dX9_go_282 (by decide) (fun c_64 => absurd c_64 (by decide)) (fun c_64 => ?_)
                      refine g_iconst (x := (nI 1)) O dX9_go_285 (by decide +kernel) ?_
                      refine g_goto (tgt := 290) O dX9_go_286 (by decide) ?_
                      refine g_istore_n (L' := [(0, .ref u0), (1, .int (bB true)), (2, .int (nI (m_ + 1))), (3, .int (nI 1)), (5, .int (nI sd)), (6, .int (nI al)), (7, .int (nI 1)), (8, .int (nI (tx c1))), (9, .int (nI ks)), (10, .int (nI (chV tx ty c2)))]) O dX9_go_290 rfl (by decide) [1, 2, 3, 0, 4, 5, 6, 7, 8, 9] rfl ?_
                      refine g_goto (tgt := 14) O dX9_go_291 (by decide) ?_
                      refine g_iload_n O dX9_go_14 3 rfl rfl ?_
                      refine g_if_eqN (tgt := 294) O (by omega) dX9_go_15 (by decide) (fun c_65 => absurd c_65 (by decide)) (fun c_65 => ?_)
                      refine g_perm (ws' := [(u0, .inr (9, [.ref u1, .ref u2, .ref u3, .ref u4, .ref u5, .ref u6, .int (nI kn), .ref u7, .int (bB ik), .ref u8, .int (nI ty), .ref u9, .int (nI (c2 + 1)), .int (bB false), .ref u10, .ref u11])), (u8, .inl ((TY D)[0].1, 60, .inl (nf tx))), (u5, .inl ((TY D)[0].1, 208, .inl M9_55))]) [1, 2, 0] rfl (by decide) ?_
                      refine g_locals (L' := [(0, .ref u0), (1, .int (bB true)), (2, .int (nI (m_ + 1))), (3, .int (nI 1))]) [0, 1, 2, 3] rfl ?_
                      exact ih_ (f_ - 1) (c2 + 1) (m_ + 1) (upf Fs m_ sd) (upf Fa m_ al) (upf Fk m_ ks) M9_55 (by omega) (by omega) (he.symm) (hF9) (by omega)
                    ·
                      have he := rdP_Bn (f := f_ - 1) (n := m_) (fs := Fs) (fa := Fa) (fk := Fk) hB hce hx44
                      rw [show f_ - 1 + 1 = f_ by omega, hR] at he
                      exfalso; rw [he] at hok; cases hok
      refine g_get O hiX9_go_X9 0 rfl rfl 12 (by decide) (by decide +kernel) rfl dX9_go_19 ?_
      refine g_aload_n O dX9_go_22 0 rfl rfl ?_
      refine g_get O hiX9_go_X9 0 rfl rfl 10 (by decide) (by decide +kernel) rfl dX9_go_23 ?_
      refine g_icmp_geN (tgt := 41) O (by omega) (by omega) dX9_go_26 (by decide) (fun c_66 => ?_) (fun c_66 => ?_)
      ·
        refine g_iconst (x := (nI 0)) O dX9_go_41 (by decide +kernel) ?_
        refine g_istore (L' := [(0, .ref u0), (1, .int (bB true)), (2, .int (nI m_)), (3, .int (nI 1)), (4, .int (nI 0))]) O dX9_go_42 (by decide) [1, 2, 3, 4, 0] rfl ?_
        refine g_iload O dX9_go_44 4 rfl ?_
        refine g_bipush (x := (nI 116)) O dX9_go_46 (by decide +kernel) ?_
        refine g_icmp_neN (tgt := 55) O (by omega) (by omega) dX9_go_48 (by decide) (fun c_67 => ?_) (fun c_67 => absurd c_67 (by decide))
        refine g_iload O dX9_go_55 4 rfl ?_
        refine g_bipush (x := (nI 114)) O dX9_go_57 (by decide +kernel) ?_
        refine g_icmp_neN (tgt := 66) O (by omega) (by omega) dX9_go_59 (by decide) (fun c_68 => ?_) (fun c_68 => absurd c_68 (by decide))
        refine g_iload O dX9_go_66 4 rfl ?_
        refine g_bipush (x := (nI 98)) O dX9_go_68 (by decide +kernel) ?_
        refine g_icmp_neN (tgt := 77) O (by omega) (by omega) dX9_go_70 (by decide) (fun c_69 => ?_) (fun c_69 => absurd c_69 (by decide))
        refine g_iload O dX9_go_77 4 rfl ?_
        refine g_bipush (x := (nI 108)) O dX9_go_79 (by decide +kernel) ?_
        refine g_icmp_neN (tgt := 88) O (by omega) (by omega) dX9_go_81 (by decide) (fun c_70 => ?_) (fun c_70 => absurd c_70 (by decide))
        refine g_bipush (x := (-5)) O dX9_go_88 (by decide +kernel) ?_
        have hsd : sdO (chO tx ty c_) = none := by first | (rw [chO_n (by omega)]; rfl) | (rw [chO_s (by omega)]; simp only [sdO, sdN]; rw [if_neg (by omega), if_neg (by omega), if_neg (by omega), if_neg (by omega)])
        refine g_eq (st' := [.int (orN (sdO (chO tx ty c_)))]) (by rw [hsd]; rfl) rfl rfl ?_
        refine g_locals (L' := [(0, .ref u0), (1, .int (bB true)), (2, .int (nI m_)), (3, .int (nI 1))]) [0, 1, 2, 3] rfl ?_
        exact J90
      ·
        have htc := htx c_ (by omega)
        refine g_aload_n O dX9_go_29 0 rfl rfl ?_
        refine g_get O hiX9_go_X9 0 rfl rfl 9 (by decide) (by decide +kernel) rfl dX9_go_30 ?_
        refine g_aload_n O dX9_go_33 0 rfl rfl ?_
        refine g_get O hiX9_go_X9 0 rfl rfl 12 (by decide) (by decide +kernel) rfl dX9_go_34 ?_
        refine g_ialdN O 1 rfl (by omega) (by omega) dX9_go_37 ?_
        refine g_goto (tgt := 42) O dX9_go_38 (by decide) ?_
        refine g_istore (L' := [(0, .ref u0), (1, .int (bB true)), (2, .int (nI m_)), (3, .int (nI 1)), (4, .int (nI (tx c_)))]) O dX9_go_42 (by decide) [1, 2, 3, 4, 0] rfl ?_
        refine g_iload O dX9_go_44 4 rfl ?_
        refine g_bipush (x := (nI 116)) O dX9_go_46 (by decide +kernel) ?_
        refine g_icmp_neN (tgt := 55) O (by omega) (by omega) dX9_go_48 (by decide) (fun c_71 => ?_) (fun c_71 => ?_)
        ·
          refine g_iload O dX9_go_55 4 rfl ?_
          refine g_bipush (x := (nI 114)) O dX9_go_57 (by decide +kernel) ?_
          refine g_icmp_neN (tgt := 66) O (by omega) (by omega) dX9_go_59 (by decide) (fun c_72 => ?_) (fun c_72 => ?_)
          ·
            refine g_iload O dX9_go_66 4 rfl ?_
            refine g_bipush (x := (nI 98)) O dX9_go_68 (by decide +kernel) ?_
            refine g_icmp_neN (tgt := 77) O (by omega) (by omega) dX9_go_70 (by decide) (fun c_73 => ?_) (fun c_73 => ?_)
            ·
              refine g_iload O dX9_go_77 4 rfl ?_
              refine g_bipush (x := (nI 108)) O dX9_go_79 (by decide +kernel) ?_
              refine g_icmp_neN (tgt := 88) O (by omega) (by omega) dX9_go_81 (by decide) (fun c_74 => ?_) (fun c_74 => ?_)
              ·
                refine g_bipush (x := (-5)) O dX9_go_88 (by decide +kernel) ?_
                have hsd : sdO (chO tx ty c_) = none := by first | (rw [chO_n (by omega)]; rfl) | (rw [chO_s (by omega)]; simp only [sdO, sdN]; rw [if_neg (by omega), if_neg (by omega), if_neg (by omega), if_neg (by omega)])
                refine g_eq (st' := [.int (orN (sdO (chO tx ty c_)))]) (by rw [hsd]; rfl) rfl rfl ?_
                refine g_locals (L' := [(0, .ref u0), (1, .int (bB true)), (2, .int (nI m_)), (3, .int (nI 1))]) [0, 1, 2, 3] rfl ?_
                exact J90
              ·
                refine g_iconst (x := (nI 3)) O dX9_go_84 (by decide +kernel) ?_
                refine g_goto (tgt := 90) O dX9_go_85 (by decide) ?_
                have hsd : sdO (chO tx ty c_) = some 3 := by rw [chO_s (by omega)]; simp only [sdO, sdN]; rw [if_neg (by omega), if_neg (by omega), if_neg (by omega), if_pos (by omega)]
                refine g_eq (st' := [.int (orN (sdO (chO tx ty c_)))]) (by rw [hsd]; rfl) rfl rfl ?_
                refine g_locals (L' := [(0, .ref u0), (1, .int (bB true)), (2, .int (nI m_)), (3, .int (nI 1))]) [0, 1, 2, 3] rfl ?_
                exact J90
            ·
              refine g_iconst (x := (nI 2)) O dX9_go_73 (by decide +kernel) ?_
              refine g_goto (tgt := 90) O dX9_go_74 (by decide) ?_
              have hsd : sdO (chO tx ty c_) = some 2 := by rw [chO_s (by omega)]; simp only [sdO, sdN]; rw [if_neg (by omega), if_neg (by omega), if_pos (by omega)]
              refine g_eq (st' := [.int (orN (sdO (chO tx ty c_)))]) (by rw [hsd]; rfl) rfl rfl ?_
              refine g_locals (L' := [(0, .ref u0), (1, .int (bB true)), (2, .int (nI m_)), (3, .int (nI 1))]) [0, 1, 2, 3] rfl ?_
              exact J90
          ·
            refine g_iconst (x := (nI 1)) O dX9_go_62 (by decide +kernel) ?_
            refine g_goto (tgt := 90) O dX9_go_63 (by decide) ?_
            have hsd : sdO (chO tx ty c_) = some 1 := by rw [chO_s (by omega)]; simp only [sdO, sdN]; rw [if_neg (by omega), if_pos (by omega)]
            refine g_eq (st' := [.int (orN (sdO (chO tx ty c_)))]) (by rw [hsd]; rfl) rfl rfl ?_
            refine g_locals (L' := [(0, .ref u0), (1, .int (bB true)), (2, .int (nI m_)), (3, .int (nI 1))]) [0, 1, 2, 3] rfl ?_
            exact J90
        ·
          refine g_iconst (x := (nI 0)) O dX9_go_51 (by decide +kernel) ?_
          refine g_goto (tgt := 90) O dX9_go_52 (by decide) ?_
          have hsd : sdO (chO tx ty c_) = some 0 := by rw [chO_s (by omega)]; simp only [sdO, sdN]; rw [if_pos (by omega)]
          refine g_eq (st' := [.int (orN (sdO (chO tx ty c_)))]) (by rw [hsd]; rfl) rfl rfl ?_
          refine g_locals (L' := [(0, .ref u0), (1, .int (bB true)), (2, .int (nI m_)), (3, .int (nI 1))]) [0, 1, 2, 3] rfl ?_
          exact J90
  exact J18 _ 60 0 0 fs fa fk M (Nat.zero_le _) (by omega) (rfl) (apS_0 hM) (Nat.lt_succ_self _)

theorem hiX9_bowAll_X9 : ∀ w ∈ wsX90, w ∈ wsX9_bowAll := by decide +kernel
set_option maxHeartbeats 4000000 in
set_option maxRecDepth 100000 in
/-- bowAll: a fault -/
theorem kX9_bowAll_b1 (l : Launch) (D : va_G) (z : Nat × Nat × Nat) (u0 : Nat) (u1 : Nat) (u2 : Nat) (u3 : Nat) (u4 : Nat) (u5 : Nat) (u6 : Nat) (u7 : Nat) (u8 : Nat) (u9 : Nat) (u10 : Nat) (u11 : Nat) (kn : Nat) (ik : Bool) (ty : Nat) (ta : Nat) (iw : Bool) (tx : Nat → Nat) (fs : Nat → Nat) (fa : Nat → Nat) (fk : Nat → Nat) (hty : ty ≤ 60) (htx : ∀ j, j < ty → tx j < 65536) (hb : (rdP tx ty 60 0 fs fa fk 0).1 = false) : CM l yX9_bowAll wsX9_bowAll ({ frames := 4, cells := 0, slots := 0, locals := 99 } : Room) D z [.ref u0] [(u0, .inr (9, [.ref u1, .ref u2, .ref u3, .ref u4, .ref u5, .ref u6, .int (nI kn), .ref u7, .int (bB ik), .ref u8, .int (nI ty), .ref u9, .int (nI ta), .int (bB iw), .ref u10, .ref u11])), (u8, .inl ((TY D)[0].1, 60, .inl (nf tx)))] (fun r_ w_ => r_ = some (.int ((-100) - nI (rdP tx ty 60 0 fs fa fk 0).2.1)) ∧ w_ = [(u0, .inr (9, [.ref u1, .ref u2, .ref u3, .ref u4, .ref u5, .ref u6, .int (nI kn), .ref u7, .int (bB ik), .ref u8, .int (nI ty), .ref u9, .int (nI ((rdP tx ty 60 0 fs fa fk 0).2.1)), .int (bB true), .ref u10, .ref u11])), (u8, .inl ((TY D)[0].1, 60, .inl (nf tx)))]) 0 0 := by
  refine CM_int (own := RX9) (cc := cX9_bowAll) (maxL := 2) (L0 := [(0, .ref u0)]) (by decide) rfl rfl (Nat.le_of_ble_eq_true rfl) rfl (fun X O E => ?_)
  refine g_aload_n O dX9_bowAll_0 0 rfl rfl ?_
  refine g_iconst (x := (nI 0)) O dX9_bowAll_1 (by decide +kernel) ?_
  refine g_callV (As := [.int (nI 0)]) (wr := []) O (kX9_go_f l D z u0 u1 u2 u3 u4 u5 u6 u7 u8 u9 u10 u11 kn ik ty ta iw tx fs fa fk (by first | assumption | omega) (by first | assumption | omega)) gX9_bowAll_X9_go rfl rfl rfl 1 (by decide +kernel) (by decide) (by decide) (q0 := 0) rfl rfl rfl [0, 1] [] rfl (by decide) rfl (by decide) (by decide) rfl rfl (Nat.le_of_ble_eq_true rfl) dX9_bowAll_2 (fun r_1 w_2 hp => ?_)
  obtain ⟨r9_3, hr9_4, rfl, rfl⟩ := hp
  refine g_eq (st' := [.int r9_3]) (ws' := [(u0, .inr (9, [.ref u1, .ref u2, .ref u3, .ref u4, .ref u5, .ref u6, .int (nI kn), .ref u7, .int (bB ik), .ref u8, .int (nI ty), .ref u9, .int (nI ((rdP tx ty 60 0 fs fa fk 0).2.1)), .int (bB (!(rdP tx ty 60 0 fs fa fk 0).1)), .ref u10, .ref u11])), (u8, .inl ((TY D)[0].1, 60, .inl (nf tx)))]) rfl rfl rfl ?_
  refine g_eq (ws' := [(u0, .inr (9, [.ref u1, .ref u2, .ref u3, .ref u4, .ref u5, .ref u6, .int (nI kn), .ref u7, .int (bB ik), .ref u8, .int (nI ty), .ref u9, .int (nI ((rdP tx ty 60 0 fs fa fk 0).2.1)), .int (bB true), .ref u10, .ref u11])), (u8, .inl ((TY D)[0].1, 60, .inl (nf tx)))]) rfl rfl (by rw [hb]; rfl) ?_
  refine g_istore_n (L' := [(0, .ref u0), (1, .int r9_3)]) O dX9_bowAll_5 rfl (by decide) [1, 0] rfl ?_
  refine g_aload_n O dX9_bowAll_6 0 rfl rfl ?_
  refine g_get O hiX9_bowAll_X9 0 rfl rfl 13 (by decide) (by decide +kernel) rfl dX9_bowAll_7 ?_
  refine g_if_eqB (tgt := 21) O dX9_bowAll_10 (by decide) (fun c_5 => absurd c_5 (by decide)) (fun c_5 => ?_)
  refine g_bipush (x := (-100)) O dX9_bowAll_13 (by decide +kernel) ?_
  refine g_aload_n O dX9_bowAll_15 0 rfl rfl ?_
  refine g_get O hiX9_bowAll_X9 0 rfl rfl 12 (by decide) (by decide +kernel) rfl dX9_bowAll_16 ?_
  refine g_isub O dX9_bowAll_19 ?_
  exact E 20 _ ((-100) - (nI ((rdP tx ty 60 0 fs fa fk 0).2.1))) _ dX9_bowAll_20 ⟨rfl, rfl⟩

set_option maxHeartbeats 4000000 in
set_option maxRecDepth 100000 in
/-- bowAll: no room -/
theorem kX9_bowAll_b2 (l : Launch) (D : va_G) (z : Nat × Nat × Nat) (u0 : Nat) (u1 : Nat) (u2 : Nat) (u3 : Nat) (u4 : Nat) (u5 : Nat) (u6 : Nat) (u7 : Nat) (u8 : Nat) (u9 : Nat) (u10 : Nat) (u11 : Nat) (kn : Nat) (ik : Bool) (ty : Nat) (ta : Nat) (iw : Bool) (tx : Nat → Nat) (fs : Nat → Nat) (fa : Nat → Nat) (fk : Nat → Nat) (M : Nat → Int32) (s : SV) (hty : ty ≤ 60) (htx : ∀ j, j < ty → tx j < 65536) (hM : RM M s) (hps : sv_ps s ≤ 16) (hb : (rdP tx ty 60 0 fs fa fk 0).1 = true) (hf : 16 < sv_ps s + (rdP tx ty 60 0 fs fa fk 0).2.2.2.2.2) : CM l yX9_bowAll wsX9_bowAll ({ frames := 4, cells := 0, slots := 0, locals := 99 } : Room) D z [.ref u0] [(u0, .inr (9, [.ref u1, .ref u2, .ref u3, .ref u4, .ref u5, .ref u6, .int (nI kn), .ref u7, .int (bB ik), .ref u8, .int (nI ty), .ref u9, .int (nI ta), .int (bB iw), .ref u10, .ref u11])), (u8, .inl ((TY D)[0].1, 60, .inl (nf tx))), (u5, .inl ((TY D)[0].1, 208, .inl M))] (fun r_ w_ => r_ = some (.int (-3)) ∧ w_ = [(u0, .inr (9, [.ref u1, .ref u2, .ref u3, .ref u4, .ref u5, .ref u6, .int (nI kn), .ref u7, .int (bB ik), .ref u8, .int (nI ty), .ref u9, .int (nI ((rdP tx ty 60 0 fs fa fk 0).2.1)), .int (bB false), .ref u10, .ref u11])), (u8, .inl ((TY D)[0].1, 60, .inl (nf tx))), (u5, .inl ((TY D)[0].1, 208, .inl M))]) 0 0 := by
  refine CM_int (own := RX9) (cc := cX9_bowAll) (maxL := 2) (L0 := [(0, .ref u0)]) (by decide) rfl rfl (Nat.le_of_ble_eq_true rfl) rfl (fun X O E => ?_)
  have hrn := rdP_n (tx := tx) (len := ty) 60 0 fs fa fk 0
  refine g_aload_n O dX9_bowAll_0 0 rfl rfl ?_
  refine g_iconst (x := (nI 0)) O dX9_bowAll_1 (by decide +kernel) ?_
  refine g_callV (As := [.int (nI 0)]) (wr := [(u5, .inl ((TY D)[0].1, 208, .inl M))]) O (kX9_go_f l D z u0 u1 u2 u3 u4 u5 u6 u7 u8 u9 u10 u11 kn ik ty ta iw tx fs fa fk (by first | assumption | omega) (by first | assumption | omega)) gX9_bowAll_X9_go rfl rfl rfl 1 (by decide +kernel) (by decide) (by decide) (q0 := 0) rfl rfl rfl [0, 1] [2] rfl (by decide) rfl (by decide) (by decide) rfl rfl (Nat.le_of_ble_eq_true rfl) dX9_bowAll_2 (fun r_1 w_2 hp => ?_)
  obtain ⟨r9_3, hr9_4, rfl, rfl⟩ := hp
  refine g_eq (st' := [.int r9_3]) (ws' := [(u5, .inl ((TY D)[0].1, 208, .inl M)), (u0, .inr (9, [.ref u1, .ref u2, .ref u3, .ref u4, .ref u5, .ref u6, .int (nI kn), .ref u7, .int (bB ik), .ref u8, .int (nI ty), .ref u9, .int (nI ((rdP tx ty 60 0 fs fa fk 0).2.1)), .int (bB (!(rdP tx ty 60 0 fs fa fk 0).1)), .ref u10, .ref u11])), (u8, .inl ((TY D)[0].1, 60, .inl (nf tx)))]) rfl rfl rfl ?_
  refine g_eq (st' := [.int (nI ((rdP tx ty 60 0 fs fa fk 0).2.2.2.2.2))]) (ws' := [(u5, .inl ((TY D)[0].1, 208, .inl M)), (u0, .inr (9, [.ref u1, .ref u2, .ref u3, .ref u4, .ref u5, .ref u6, .int (nI kn), .ref u7, .int (bB ik), .ref u8, .int (nI ty), .ref u9, .int (nI ((rdP tx ty 60 0 fs fa fk 0).2.1)), .int (bB false), .ref u10, .ref u11])), (u8, .inl ((TY D)[0].1, 60, .inl (nf tx)))]) (by rw [hr9_4 hb]) rfl (by rw [hb]; rfl) ?_
  refine g_istore_n (L' := [(0, .ref u0), (1, .int (nI ((rdP tx ty 60 0 fs fa fk 0).2.2.2.2.2)))]) O dX9_bowAll_5 rfl (by decide) [1, 0] rfl ?_
  refine g_aload_n O dX9_bowAll_6 0 rfl rfl ?_
  refine g_get O hiX9_bowAll_X9 1 rfl rfl 13 (by decide) (by decide +kernel) rfl dX9_bowAll_7 ?_
  refine g_if_eqB (tgt := 21) O dX9_bowAll_10 (by decide) (fun c_5 => ?_) (fun c_5 => absurd c_5 (by decide))
  refine g_aload_n O dX9_bowAll_21 0 rfl rfl ?_
  refine g_get O hiX9_bowAll_X9 1 rfl rfl 4 (by decide) (by decide +kernel) rfl dX9_bowAll_22 ?_
  refine g_sipush (x := (nI 159)) O dX9_bowAll_25 (by decide +kernel) ?_
  refine g_ialdN O 0 rfl (by omega) (by omega) dX9_bowAll_28 ?_
  refine g_eq (st' := [.int (nI (sv_ps s))]) (by rw [RM_ps hM]) rfl rfl ?_
  refine g_iload_n O dX9_bowAll_29 1 rfl rfl ?_
  refine g_iaddN O dX9_bowAll_30 ?_
  refine g_bipush (x := (nI 16)) O dX9_bowAll_31 (by decide +kernel) ?_
  refine g_icmp_leN (tgt := 39) O (by omega) (by omega) dX9_bowAll_33 (by decide) (fun c_6 => (by exfalso; omega)) (fun c_6 => ?_)
  refine g_bipush (x := (-3)) O dX9_bowAll_36 (by decide +kernel) ?_
  refine g_perm (ws' := [(u0, .inr (9, [.ref u1, .ref u2, .ref u3, .ref u4, .ref u5, .ref u6, .int (nI kn), .ref u7, .int (bB ik), .ref u8, .int (nI ty), .ref u9, .int (nI ((rdP tx ty 60 0 fs fa fk 0).2.1)), .int (bB false), .ref u10, .ref u11])), (u8, .inl ((TY D)[0].1, 60, .inl (nf tx))), (u5, .inl ((TY D)[0].1, 208, .inl M))]) [1, 2, 0] rfl (by decide) ?_
  exact E 38 _ (-3) _ dX9_bowAll_38 ⟨rfl, rfl⟩

set_option maxHeartbeats 4000000 in
set_option maxRecDepth 100000 in
/-- bowAll -/
theorem kX9_bowAll_ok (l : Launch) (D : va_G) (z : Nat × Nat × Nat) (u0 : Nat) (u1 : Nat) (u2 : Nat) (u3 : Nat) (u4 : Nat) (u5 : Nat) (u6 : Nat) (u7 : Nat) (u8 : Nat) (u9 : Nat) (u10 : Nat) (u11 : Nat) (kn : Nat) (ik : Bool) (ty : Nat) (ta : Nat) (iw : Bool) (tx : Nat → Nat) (fs : Nat → Nat) (fa : Nat → Nat) (fk : Nat → Nat) (M : Nat → Int32) (Bf : Nat → Int32) (s : SV) (hty : ty ≤ 60) (htx : ∀ j, j < ty → tx j < 65536) (hM : RM M s) (hps : sv_ps s ≤ 16) (hnc : sv_nc s ≤ 4) (hkn : kn ≤ 4) (hb : (rdP tx ty 60 0 fs fa fk 0).1 = true) (hf : sv_ps s + (rdP tx ty 60 0 fs fa fk 0).2.2.2.2.2 ≤ 16) : CM l yX9_bowAll wsX9_bowAll ({ frames := 4, cells := 0, slots := 0, locals := 99 } : Room) D z [.ref u0] [(u0, .inr (9, [.ref u1, .ref u2, .ref u3, .ref u4, .ref u5, .ref u6, .int (nI kn), .ref u7, .int (bB ik), .ref u8, .int (nI ty), .ref u9, .int (nI ta), .int (bB iw), .ref u10, .ref u11])), (u8, .inl ((TY D)[0].1, 60, .inl (nf tx))), (u5, .inl ((TY D)[0].1, 208, .inl M)), (u6, .inl ((TY D)[0].1, 832, .inl Bf))] (fun r_ w_ => ∃ (M9 : Nat → Int32), (RM M9 (apS s (rdP tx ty 60 0 fs fa fk 0).2.2.1 (rdP tx ty 60 0 fs fa fk 0).2.2.2.1 (rdP tx ty 60 0 fs fa fk 0).2.2.2.2.1 (rdP tx ty 60 0 fs fa fk 0).2.2.2.2.2)) ∧ r_ = some (.int (nI ((rdP tx ty 60 0 fs fa fk 0).2.2.2.2.2))) ∧ w_ = [(u0, .inr (9, [.ref u1, .ref u2, .ref u3, .ref u4, .ref u5, .ref u6, .int (nI (rhN kn)), .ref u7, .int (bB ik), .ref u8, .int (nI ty), .ref u9, .int (nI ((rdP tx ty 60 0 fs fa fk 0).2.1)), .int (bB false), .ref u10, .ref u11])), (u8, .inl ((TY D)[0].1, 60, .inl (nf tx))), (u5, .inl ((TY D)[0].1, 208, .inl M9)), (u6, .inl ((TY D)[0].1, 832, .inl (kwF Bf M kn)))]) 0 0 := by
  refine CM_int (own := RX9) (cc := cX9_bowAll) (maxL := 2) (L0 := [(0, .ref u0)]) (by decide) rfl rfl (Nat.le_of_ble_eq_true rfl) rfl (fun X O E => ?_)
  have hrn := rdP_n (tx := tx) (len := ty) 60 0 fs fa fk 0
  refine g_aload_n O dX9_bowAll_0 0 rfl rfl ?_
  refine g_iconst (x := (nI 0)) O dX9_bowAll_1 (by decide +kernel) ?_
  refine g_callV (As := [.int (nI 0)]) (wr := [(u5, .inl ((TY D)[0].1, 208, .inl M)), (u6, .inl ((TY D)[0].1, 832, .inl Bf))]) O (kX9_go_f l D z u0 u1 u2 u3 u4 u5 u6 u7 u8 u9 u10 u11 kn ik ty ta iw tx fs fa fk (by first | assumption | omega) (by first | assumption | omega)) gX9_bowAll_X9_go rfl rfl rfl 1 (by decide +kernel) (by decide) (by decide) (q0 := 0) rfl rfl rfl [0, 1] [2, 3] rfl (by decide) rfl (by decide) (by decide) rfl rfl (Nat.le_of_ble_eq_true rfl) dX9_bowAll_2 (fun r_1 w_2 hp => ?_)
  obtain ⟨r9_3, hr9_4, rfl, rfl⟩ := hp
  refine g_eq (st' := [.int r9_3]) (ws' := [(u5, .inl ((TY D)[0].1, 208, .inl M)), (u6, .inl ((TY D)[0].1, 832, .inl Bf)), (u0, .inr (9, [.ref u1, .ref u2, .ref u3, .ref u4, .ref u5, .ref u6, .int (nI kn), .ref u7, .int (bB ik), .ref u8, .int (nI ty), .ref u9, .int (nI ((rdP tx ty 60 0 fs fa fk 0).2.1)), .int (bB (!(rdP tx ty 60 0 fs fa fk 0).1)), .ref u10, .ref u11])), (u8, .inl ((TY D)[0].1, 60, .inl (nf tx)))]) rfl rfl rfl ?_
  refine g_eq (st' := [.int (nI ((rdP tx ty 60 0 fs fa fk 0).2.2.2.2.2))]) (ws' := [(u5, .inl ((TY D)[0].1, 208, .inl M)), (u6, .inl ((TY D)[0].1, 832, .inl Bf)), (u0, .inr (9, [.ref u1, .ref u2, .ref u3, .ref u4, .ref u5, .ref u6, .int (nI kn), .ref u7, .int (bB ik), .ref u8, .int (nI ty), .ref u9, .int (nI ((rdP tx ty 60 0 fs fa fk 0).2.1)), .int (bB false), .ref u10, .ref u11])), (u8, .inl ((TY D)[0].1, 60, .inl (nf tx)))]) (by rw [hr9_4 hb]) rfl (by rw [hb]; rfl) ?_
  refine g_istore_n (L' := [(0, .ref u0), (1, .int (nI ((rdP tx ty 60 0 fs fa fk 0).2.2.2.2.2)))]) O dX9_bowAll_5 rfl (by decide) [1, 0] rfl ?_
  refine g_aload_n O dX9_bowAll_6 0 rfl rfl ?_
  refine g_get O hiX9_bowAll_X9 2 rfl rfl 13 (by decide) (by decide +kernel) rfl dX9_bowAll_7 ?_
  refine g_if_eqB (tgt := 21) O dX9_bowAll_10 (by decide) (fun c_5 => ?_) (fun c_5 => absurd c_5 (by decide))
  refine g_aload_n O dX9_bowAll_21 0 rfl rfl ?_
  refine g_get O hiX9_bowAll_X9 2 rfl rfl 4 (by decide) (by decide +kernel) rfl dX9_bowAll_22 ?_
  refine g_sipush (x := (nI 159)) O dX9_bowAll_25 (by decide +kernel) ?_
  refine g_ialdN O 0 rfl (by omega) (by omega) dX9_bowAll_28 ?_
  refine g_eq (st' := [.int (nI (sv_ps s))]) (by rw [RM_ps hM]) rfl rfl ?_
  refine g_iload_n O dX9_bowAll_29 1 rfl rfl ?_
  refine g_iaddN O dX9_bowAll_30 ?_
  refine g_bipush (x := (nI 16)) O dX9_bowAll_31 (by decide +kernel) ?_
  refine g_icmp_leN (tgt := 39) O (by omega) (by omega) dX9_bowAll_33 (by decide) (fun c_6 => ?_) (fun c_6 => (by exfalso; omega))
  refine g_aload_n O dX9_bowAll_39 0 rfl rfl ?_
  refine g_callV (As := []) (wr := [(u8, .inl ((TY D)[0].1, 60, .inl (nf tx)))]) O (kX9_know l D z u0 u1 u2 u3 u4 u5 u6 u7 u8 u9 u10 u11 kn ik ty ((rdP tx ty 60 0 fs fa fk 0).2.1) false M Bf (by first | assumption | omega)) gX9_bowAll_X9_know rfl rfl rfl 0 (by decide +kernel) (by decide) (by decide) (q0 := 0) rfl rfl rfl [2, 0, 1] [3] rfl (by decide) rfl (by decide) (by decide) rfl rfl (Nat.le_of_ble_eq_true rfl) dX9_bowAll_40 (fun r_7 w_8 hp => ?_)
  obtain ⟨rfl, rfl⟩ := hp
  refine g_eq (st' := []) (ws' := [(u8, .inl ((TY D)[0].1, 60, .inl (nf tx))), (u0, .inr (9, [.ref u1, .ref u2, .ref u3, .ref u4, .ref u5, .ref u6, .int (nI (rhN kn)), .ref u7, .int (bB ik), .ref u8, .int (nI ty), .ref u9, .int (nI ((rdP tx ty 60 0 fs fa fk 0).2.1)), .int (bB false), .ref u10, .ref u11])), (u5, .inl ((TY D)[0].1, 208, .inl M)), (u6, .inl ((TY D)[0].1, 832, .inl (kwF Bf M kn)))]) rfl rfl rfl ?_
  refine g_aload_n O dX9_bowAll_43 0 rfl rfl ?_
  refine g_iconst (x := (nI 1)) O dX9_bowAll_44 (by decide +kernel) ?_
  refine g_callV (As := [.int (nI 1)]) (wr := [(u6, .inl ((TY D)[0].1, 832, .inl (kwF Bf M kn)))]) O (kX9_go_t l D z u0 u1 u2 u3 u4 u5 u6 u7 u8 u9 u10 u11 (rhN kn) ik ty ((rdP tx ty 60 0 fs fa fk 0).2.1) false tx fs fa fk M s (by first | assumption | omega) (by first | assumption | omega) (by first | assumption | omega) (by first | assumption | omega) (by first | assumption | omega) (by first | assumption | omega)) gX9_bowAll_X9_go rfl rfl rfl 1 (by decide +kernel) (by decide) (by decide) (q0 := 0) rfl rfl rfl [1, 0, 2] [3] rfl (by decide) rfl (by decide) (by decide) rfl rfl (Nat.le_of_ble_eq_true rfl) dX9_bowAll_45 (fun r_9 w_10 hp => ?_)
  obtain ⟨M9_11, hM9_12, rfl, rfl⟩ := hp
  refine g_eq (st' := [.int (nI ((rdP tx ty 60 0 fs fa fk 0).2.2.2.2.2))]) (ws' := [(u6, .inl ((TY D)[0].1, 832, .inl (kwF Bf M kn))), (u0, .inr (9, [.ref u1, .ref u2, .ref u3, .ref u4, .ref u5, .ref u6, .int (nI (rhN kn)), .ref u7, .int (bB ik), .ref u8, .int (nI ty), .ref u9, .int (nI ((rdP tx ty 60 0 fs fa fk 0).2.1)), .int (bB false), .ref u10, .ref u11])), (u8, .inl ((TY D)[0].1, 60, .inl (nf tx))), (u5, .inl ((TY D)[0].1, 208, .inl M9_11))]) rfl rfl rfl ?_
  refine g_perm (ws' := [(u0, .inr (9, [.ref u1, .ref u2, .ref u3, .ref u4, .ref u5, .ref u6, .int (nI (rhN kn)), .ref u7, .int (bB ik), .ref u8, .int (nI ty), .ref u9, .int (nI ((rdP tx ty 60 0 fs fa fk 0).2.1)), .int (bB false), .ref u10, .ref u11])), (u8, .inl ((TY D)[0].1, 60, .inl (nf tx))), (u5, .inl ((TY D)[0].1, 208, .inl M9_11)), (u6, .inl ((TY D)[0].1, 832, .inl (kwF Bf M kn)))]) [1, 2, 3, 0] rfl (by decide) ?_
  exact E 48 _ (nI ((rdP tx ty 60 0 fs fa fk 0).2.2.2.2.2)) _ dX9_bowAll_48 (⟨_, hM9_12, rfl, rfl⟩)
