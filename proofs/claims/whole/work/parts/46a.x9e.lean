theorem hiX9_sign_X9 : ∀ w ∈ wsX90, w ∈ wsX9_sign := by intro w h; simp only [wsX9_sign, List.mem_append, List.mem_cons, h, or_true, true_or]
set_option maxHeartbeats 2000000 in
set_option maxRecDepth 100000 in
/-- a sign is read -/
theorem kX9_sign (l : Launch) (D : va_G) (z : Nat × Nat × Nat) (u0 : Nat) (u1 : Nat) (u2 : Nat) (u3 : Nat) (u4 : Nat) (u5 : Nat) (u6 : Nat) (u7 : Nat) (u8 : Nat) (u9 : Nat) (u10 : Nat) (u11 : Nat) (kn : Nat) (ik : Bool) (ty : Nat) (ta : Nat) (iw : Bool) (tx : Nat → Nat) (lo : Nat) (hi : Nat) (hty : ty ≤ 60) (hta : ta ≤ 1000) (htx : ∀ j, j < ty → tx j < 65536) (hlo : lo < 1000) (hhi : hi < 1000) : CM l yX9_sign wsX9_sign ({ frames := 1, cells := 0, slots := 0, locals := 22 } : Room) D z [.ref u0, .int (nI lo), .int (nI hi)] [(u0, .inr (9, [.ref u1, .ref u2, .ref u3, .ref u4, .ref u5, .ref u6, .int (nI kn), .ref u7, .int (bB ik), .ref u8, .int (nI ty), .ref u9, .int (nI ta), .int (bB iw), .ref u10, .ref u11])), (u8, .inl (tyI D, 60, .inl (nf tx)))] (fun r_ w_ => r_ = some (.int (nI (chV tx ty ta))) ∧ w_ = [(u0, .inr (9, [.ref u1, .ref u2, .ref u3, .ref u4, .ref u5, .ref u6, .int (nI kn), .ref u7, .int (bB ik), .ref u8, .int (nI ty), .ref u9, .int (nI (sgA tx ty ta iw lo hi)), .int (bB (sgW tx ty ta iw lo hi)), .ref u10, .ref u11])), (u8, .inl (tyI D, 60, .inl (nf tx)))]) 0 0 := by
  refine CM_int (own := RX9) (cc := cX9_sign) (maxL := 4) (L0 := [(0, .ref u0), (1, .int (nI lo)), (2, .int (nI hi))]) (by decide) rfl rfl (Nat.le_of_ble_eq_true rfl) rfl (fun X O E => ?_)
  refine g_aload_n O dX9_sign_0 0 rfl rfl ?_
  refine g_get O hiX9_sign_X9 0 rfl rfl 12 (by decide) (by decide +kernel) rfl dX9_sign_1 ?_
  refine g_aload_n O dX9_sign_4 0 rfl rfl ?_
  refine g_get O hiX9_sign_X9 0 rfl rfl 10 (by decide) (by decide +kernel) rfl dX9_sign_5 ?_
  refine g_icmp_geN (tgt := 23) O (by omega) (by omega) dX9_sign_8 (by decide) (fun c_1 => ?_) (fun c_1 => ?_)
  ·
    have hc : chV tx ty ta = 0 := by simp only [chV]; rw [if_neg (by omega)]
    refine g_iconst (x := (nI 0)) O dX9_sign_23 (by decide +kernel) ?_
    refine g_istore_n (L' := [(0, .ref u0), (1, .int (nI lo)), (2, .int (nI hi)), (3, .int (nI 0))]) O dX9_sign_24 rfl (by decide) [1, 2, 3, 0] rfl ?_
    refine g_aload_n O dX9_sign_25 0 rfl rfl ?_
    refine g_aload_n O dX9_sign_26 0 rfl rfl ?_
    refine g_get O hiX9_sign_X9 0 rfl rfl 13 (by decide) (by decide +kernel) rfl dX9_sign_27 ?_
    refine g_if_neB (tgt := 42) O dX9_sign_30 (by decide) (fun c_2 => ?_) (fun c_2 => ?_)
    ·
      have hs_ : sgW tx ty ta iw lo hi = true := by simp only [sgW]; rw [c_2]; rfl
      refine g_iconst (x := (nI 1)) O dX9_sign_42 (by decide +kernel) ?_
      refine g_goto (tgt := 47) O dX9_sign_43 (by decide) ?_
      refine g_eq (st' := [.int (bB true), .ref u0]) rfl rfl rfl ?_
      have hs : sgW tx ty ta iw lo hi = true := hs_
      refine g_put (ws' := [(u0, .inr (9, [.ref u1, .ref u2, .ref u3, .ref u4, .ref u5, .ref u6, .int (nI kn), .ref u7, .int (bB ik), .ref u8, .int (nI ty), .ref u9, .int (nI ta), .int (bB true), .ref u10, .ref u11])), (u8, .inl (tyI D, 60, .inl (nf tx)))]) O hiX9_sign_X9 tyX9 tyX9_ok nmX9 0 rfl rfl 13 (by decide) (by decide +kernel) rfl (tyX9_ok 13 (by decide)) (bB_nn _) (bB_fit _) (Nat.le_of_ble_eq_true rfl) dX9_sign_47 rfl ?_
      refine g_aload_n O dX9_sign_50 0 rfl rfl ?_
      refine g_dup O dX9_sign_51 rfl ?_
      refine g_get O hiX9_sign_X9 0 rfl rfl 12 (by decide) (by decide +kernel) rfl dX9_sign_52 ?_
      refine g_aload_n O dX9_sign_55 0 rfl rfl ?_
      refine g_get O hiX9_sign_X9 0 rfl rfl 13 (by decide) (by decide +kernel) rfl dX9_sign_56 ?_
      refine g_if_eqB (tgt := 66) O dX9_sign_59 (by decide) (fun c_3 => absurd c_3 (by decide)) (fun c_3 => ?_)
      refine g_iconst (x := (nI 0)) O dX9_sign_62 (by decide +kernel) ?_
      refine g_goto (tgt := 67) O dX9_sign_63 (by decide) ?_
      refine g_iaddN O dX9_sign_67 ?_
      refine g_put (ws' := [(u0, .inr (9, [.ref u1, .ref u2, .ref u3, .ref u4, .ref u5, .ref u6, .int (nI kn), .ref u7, .int (bB ik), .ref u8, .int (nI ty), .ref u9, .int (nI (ta + 0)), .int (bB true), .ref u10, .ref u11])), (u8, .inl (tyI D, 60, .inl (nf tx)))]) O hiX9_sign_X9 tyX9 tyX9_ok nmX9 0 rfl rfl 12 (by decide) (by decide +kernel) rfl (tyX9_ok 12 (by decide)) rfl rfl (Nat.le_of_ble_eq_true rfl) dX9_sign_68 rfl ?_
      refine g_iload_n O dX9_sign_71 3 rfl rfl ?_
      exact E 72 _ (nI 0) _ dX9_sign_72 (by unfold sgA; rw [hs, hc]; exact ⟨rfl, rfl⟩)
    ·
      have h30 := c_2
      refine g_iload_n O dX9_sign_33 3 rfl rfl ?_
      refine g_iload_n O dX9_sign_34 1 rfl rfl ?_
      refine g_iload_n O dX9_sign_35 2 rfl rfl ?_
      refine g_callS (As := [.int (nI 0), .int (nI lo), .int (nI hi)]) (wr := [(u0, .inr (9, [.ref u1, .ref u2, .ref u3, .ref u4, .ref u5, .ref u6, .int (nI kn), .ref u7, .int (bB ik), .ref u8, .int (nI ty), .ref u9, .int (nI ta), .int (bB iw), .ref u10, .ref u11])), (u8, .inl (tyI D, 60, .inl (nf tx)))]) O (kX9_in l D z (nI 0) (nI lo) (nI hi) ) gX9_sign_X9_in rfl rfl rfl 3 (by decide +kernel) (by decide) (by decide) [] [0, 1] rfl (by decide) rfl (by decide) (by decide) rfl rfl (Nat.le_of_ble_eq_true rfl) dX9_sign_36 (fun r_4 w_5 hp => ?_)
      obtain ⟨rfl, rfl⟩ := hp
      refine g_eq (st' := [.int (bB (inI (nI 0) (nI lo) (nI hi))), .ref u0]) (ws' := [(u0, .inr (9, [.ref u1, .ref u2, .ref u3, .ref u4, .ref u5, .ref u6, .int (nI kn), .ref u7, .int (bB ik), .ref u8, .int (nI ty), .ref u9, .int (nI ta), .int (bB iw), .ref u10, .ref u11])), (u8, .inl (tyI D, 60, .inl (nf tx)))]) rfl rfl rfl ?_
      refine g_eq (st' := [.int (bB (decide (lo ≤ 0 ∧ 0 ≤ hi))), .ref u0]) (by rw [inI_N (by omega) (by omega) (by omega)]) rfl rfl ?_
      refine g_if_neB (tgt := 46) O dX9_sign_39 (by decide) (fun c_6 => ?_) (fun c_6 => ?_)
      ·
        have hs_ : sgW tx ty ta iw lo hi = false := by simp only [sgW]; rw [h30, hc, c_6]; rfl
        refine g_iconst (x := (nI 0)) O dX9_sign_46 (by decide +kernel) ?_
        refine g_eq (st' := [.int (bB false), .ref u0]) rfl rfl rfl ?_
        have hs : sgW tx ty ta iw lo hi = false := hs_
        refine g_put (ws' := [(u0, .inr (9, [.ref u1, .ref u2, .ref u3, .ref u4, .ref u5, .ref u6, .int (nI kn), .ref u7, .int (bB ik), .ref u8, .int (nI ty), .ref u9, .int (nI ta), .int (bB false), .ref u10, .ref u11])), (u8, .inl (tyI D, 60, .inl (nf tx)))]) O hiX9_sign_X9 tyX9 tyX9_ok nmX9 0 rfl rfl 13 (by decide) (by decide +kernel) rfl (tyX9_ok 13 (by decide)) (bB_nn _) (bB_fit _) (Nat.le_of_ble_eq_true rfl) dX9_sign_47 rfl ?_
        refine g_aload_n O dX9_sign_50 0 rfl rfl ?_
        refine g_dup O dX9_sign_51 rfl ?_
        refine g_get O hiX9_sign_X9 0 rfl rfl 12 (by decide) (by decide +kernel) rfl dX9_sign_52 ?_
        refine g_aload_n O dX9_sign_55 0 rfl rfl ?_
        refine g_get O hiX9_sign_X9 0 rfl rfl 13 (by decide) (by decide +kernel) rfl dX9_sign_56 ?_
        refine g_if_eqB (tgt := 66) O dX9_sign_59 (by decide) (fun c_7 => ?_) (fun c_7 => absurd c_7 (by decide))
        refine g_iconst (x := (nI 1)) O dX9_sign_66 (by decide +kernel) ?_
        refine g_iaddN O dX9_sign_67 ?_
        refine g_put (ws' := [(u0, .inr (9, [.ref u1, .ref u2, .ref u3, .ref u4, .ref u5, .ref u6, .int (nI kn), .ref u7, .int (bB ik), .ref u8, .int (nI ty), .ref u9, .int (nI (ta + 1)), .int (bB false), .ref u10, .ref u11])), (u8, .inl (tyI D, 60, .inl (nf tx)))]) O hiX9_sign_X9 tyX9 tyX9_ok nmX9 0 rfl rfl 12 (by decide) (by decide +kernel) rfl (tyX9_ok 12 (by decide)) rfl rfl (Nat.le_of_ble_eq_true rfl) dX9_sign_68 rfl ?_
        refine g_iload_n O dX9_sign_71 3 rfl rfl ?_
        exact E 72 _ (nI 0) _ dX9_sign_72 (by unfold sgA; rw [hs, hc]; exact ⟨rfl, rfl⟩)
      ·
        have hs_ : sgW tx ty ta iw lo hi = true := by simp only [sgW]; rw [h30, hc, c_6]; rfl
        refine g_iconst (x := (nI 1)) O dX9_sign_42 (by decide +kernel) ?_
        refine g_goto (tgt := 47) O dX9_sign_43 (by decide) ?_
        refine g_eq (st' := [.int (bB true), .ref u0]) rfl rfl rfl ?_
        have hs : sgW tx ty ta iw lo hi = true := hs_
        refine g_put (ws' := [(u0, .inr (9, [.ref u1, .ref u2, .ref u3, .ref u4, .ref u5, .ref u6, .int (nI kn), .ref u7, .int (bB ik), .ref u8, .int (nI ty), .ref u9, .int (nI ta), .int (bB true), .ref u10, .ref u11])), (u8, .inl (tyI D, 60, .inl (nf tx)))]) O hiX9_sign_X9 tyX9 tyX9_ok nmX9 0 rfl rfl 13 (by decide) (by decide +kernel) rfl (tyX9_ok 13 (by decide)) (bB_nn _) (bB_fit _) (Nat.le_of_ble_eq_true rfl) dX9_sign_47 rfl ?_
        refine g_aload_n O dX9_sign_50 0 rfl rfl ?_
        refine g_dup O dX9_sign_51 rfl ?_
        refine g_get O hiX9_sign_X9 0 rfl rfl 12 (by decide) (by decide +kernel) rfl dX9_sign_52 ?_
        refine g_aload_n O dX9_sign_55 0 rfl rfl ?_
        refine g_get O hiX9_sign_X9 0 rfl rfl 13 (by decide) (by decide +kernel) rfl dX9_sign_56 ?_
        refine g_if_eqB (tgt := 66) O dX9_sign_59 (by decide) (fun c_8 => absurd c_8 (by decide)) (fun c_8 => ?_)
        refine g_iconst (x := (nI 0)) O dX9_sign_62 (by decide +kernel) ?_
        refine g_goto (tgt := 67) O dX9_sign_63 (by decide) ?_
        refine g_iaddN O dX9_sign_67 ?_
        refine g_put (ws' := [(u0, .inr (9, [.ref u1, .ref u2, .ref u3, .ref u4, .ref u5, .ref u6, .int (nI kn), .ref u7, .int (bB ik), .ref u8, .int (nI ty), .ref u9, .int (nI (ta + 0)), .int (bB true), .ref u10, .ref u11])), (u8, .inl (tyI D, 60, .inl (nf tx)))]) O hiX9_sign_X9 tyX9 tyX9_ok nmX9 0 rfl rfl 12 (by decide) (by decide +kernel) rfl (tyX9_ok 12 (by decide)) rfl rfl (Nat.le_of_ble_eq_true rfl) dX9_sign_68 rfl ?_
        refine g_iload_n O dX9_sign_71 3 rfl rfl ?_
        exact E 72 _ (nI 0) _ dX9_sign_72 (by unfold sgA; rw [hs, hc]; exact ⟨rfl, rfl⟩)
  ·
    have hc : chV tx ty ta = tx ta := by simp only [chV]; rw [if_pos (by omega)]
    have htxa := htx ta (by omega)
    refine g_aload_n O dX9_sign_11 0 rfl rfl ?_
    refine g_get O hiX9_sign_X9 0 rfl rfl 9 (by decide) (by decide +kernel) rfl dX9_sign_12 ?_
    refine g_aload_n O dX9_sign_15 0 rfl rfl ?_
    refine g_get O hiX9_sign_X9 0 rfl rfl 12 (by decide) (by decide +kernel) rfl dX9_sign_16 ?_
    refine g_ialdN O 1 rfl (by omega) (by omega) dX9_sign_19 ?_
    refine g_goto (tgt := 24) O dX9_sign_20 (by decide) ?_
    refine g_istore_n (L' := [(0, .ref u0), (1, .int (nI lo)), (2, .int (nI hi)), (3, .int (nI (tx ta)))]) O dX9_sign_24 rfl (by decide) [1, 2, 3, 0] rfl ?_
    refine g_aload_n O dX9_sign_25 0 rfl rfl ?_
    refine g_aload_n O dX9_sign_26 0 rfl rfl ?_
    refine g_get O hiX9_sign_X9 0 rfl rfl 13 (by decide) (by decide +kernel) rfl dX9_sign_27 ?_
    refine g_if_neB (tgt := 42) O dX9_sign_30 (by decide) (fun c_9 => ?_) (fun c_9 => ?_)
    ·
      have hs_ : sgW tx ty ta iw lo hi = true := by simp only [sgW]; rw [c_9]; rfl
      refine g_iconst (x := (nI 1)) O dX9_sign_42 (by decide +kernel) ?_
      refine g_goto (tgt := 47) O dX9_sign_43 (by decide) ?_
      refine g_eq (st' := [.int (bB true), .ref u0]) rfl rfl rfl ?_
      have hs : sgW tx ty ta iw lo hi = true := hs_
      refine g_put (ws' := [(u0, .inr (9, [.ref u1, .ref u2, .ref u3, .ref u4, .ref u5, .ref u6, .int (nI kn), .ref u7, .int (bB ik), .ref u8, .int (nI ty), .ref u9, .int (nI ta), .int (bB true), .ref u10, .ref u11])), (u8, .inl (tyI D, 60, .inl (nf tx)))]) O hiX9_sign_X9 tyX9 tyX9_ok nmX9 0 rfl rfl 13 (by decide) (by decide +kernel) rfl (tyX9_ok 13 (by decide)) (bB_nn _) (bB_fit _) (Nat.le_of_ble_eq_true rfl) dX9_sign_47 rfl ?_
      refine g_aload_n O dX9_sign_50 0 rfl rfl ?_
      refine g_dup O dX9_sign_51 rfl ?_
      refine g_get O hiX9_sign_X9 0 rfl rfl 12 (by decide) (by decide +kernel) rfl dX9_sign_52 ?_
      refine g_aload_n O dX9_sign_55 0 rfl rfl ?_
      refine g_get O hiX9_sign_X9 0 rfl rfl 13 (by decide) (by decide +kernel) rfl dX9_sign_56 ?_
      refine g_if_eqB (tgt := 66) O dX9_sign_59 (by decide) (fun c_10 => absurd c_10 (by decide)) (fun c_10 => ?_)
      refine g_iconst (x := (nI 0)) O dX9_sign_62 (by decide +kernel) ?_
      refine g_goto (tgt := 67) O dX9_sign_63 (by decide) ?_
      refine g_iaddN O dX9_sign_67 ?_
      refine g_put (ws' := [(u0, .inr (9, [.ref u1, .ref u2, .ref u3, .ref u4, .ref u5, .ref u6, .int (nI kn), .ref u7, .int (bB ik), .ref u8, .int (nI ty), .ref u9, .int (nI (ta + 0)), .int (bB true), .ref u10, .ref u11])), (u8, .inl (tyI D, 60, .inl (nf tx)))]) O hiX9_sign_X9 tyX9 tyX9_ok nmX9 0 rfl rfl 12 (by decide) (by decide +kernel) rfl (tyX9_ok 12 (by decide)) rfl rfl (Nat.le_of_ble_eq_true rfl) dX9_sign_68 rfl ?_
      refine g_iload_n O dX9_sign_71 3 rfl rfl ?_
      exact E 72 _ (nI (tx ta)) _ dX9_sign_72 (by unfold sgA; rw [hs, hc]; exact ⟨rfl, rfl⟩)
    ·
      have h30 := c_9
      refine g_iload_n O dX9_sign_33 3 rfl rfl ?_
      refine g_iload_n O dX9_sign_34 1 rfl rfl ?_
      refine g_iload_n O dX9_sign_35 2 rfl rfl ?_
      refine g_callS (As := [.int (nI (tx ta)), .int (nI lo), .int (nI hi)]) (wr := [(u0, .inr (9, [.ref u1, .ref u2, .ref u3, .ref u4, .ref u5, .ref u6, .int (nI kn), .ref u7, .int (bB ik), .ref u8, .int (nI ty), .ref u9, .int (nI ta), .int (bB iw), .ref u10, .ref u11])), (u8, .inl (tyI D, 60, .inl (nf tx)))]) O (kX9_in l D z (nI (tx ta)) (nI lo) (nI hi) ) gX9_sign_X9_in rfl rfl rfl 3 (by decide +kernel) (by decide) (by decide) [] [0, 1] rfl (by decide) rfl (by decide) (by decide) rfl rfl (Nat.le_of_ble_eq_true rfl) dX9_sign_36 (fun r_11 w_12 hp => ?_)
      obtain ⟨rfl, rfl⟩ := hp
      refine g_eq (st' := [.int (bB (inI (nI (tx ta)) (nI lo) (nI hi))), .ref u0]) (ws' := [(u0, .inr (9, [.ref u1, .ref u2, .ref u3, .ref u4, .ref u5, .ref u6, .int (nI kn), .ref u7, .int (bB ik), .ref u8, .int (nI ty), .ref u9, .int (nI ta), .int (bB iw), .ref u10, .ref u11])), (u8, .inl (tyI D, 60, .inl (nf tx)))]) rfl rfl rfl ?_
      refine g_eq (st' := [.int (bB (decide (lo ≤ tx ta ∧ tx ta ≤ hi))), .ref u0]) (by rw [inI_N (by omega) (by omega) (by omega)]) rfl rfl ?_
      refine g_if_neB (tgt := 46) O dX9_sign_39 (by decide) (fun c_13 => ?_) (fun c_13 => ?_)
      ·
        have hs_ : sgW tx ty ta iw lo hi = false := by simp only [sgW]; rw [h30, hc, c_13]; rfl
        refine g_iconst (x := (nI 0)) O dX9_sign_46 (by decide +kernel) ?_
        refine g_eq (st' := [.int (bB false), .ref u0]) rfl rfl rfl ?_
        have hs : sgW tx ty ta iw lo hi = false := hs_
        refine g_put (ws' := [(u0, .inr (9, [.ref u1, .ref u2, .ref u3, .ref u4, .ref u5, .ref u6, .int (nI kn), .ref u7, .int (bB ik), .ref u8, .int (nI ty), .ref u9, .int (nI ta), .int (bB false), .ref u10, .ref u11])), (u8, .inl (tyI D, 60, .inl (nf tx)))]) O hiX9_sign_X9 tyX9 tyX9_ok nmX9 0 rfl rfl 13 (by decide) (by decide +kernel) rfl (tyX9_ok 13 (by decide)) (bB_nn _) (bB_fit _) (Nat.le_of_ble_eq_true rfl) dX9_sign_47 rfl ?_
        refine g_aload_n O dX9_sign_50 0 rfl rfl ?_
        refine g_dup O dX9_sign_51 rfl ?_
        refine g_get O hiX9_sign_X9 0 rfl rfl 12 (by decide) (by decide +kernel) rfl dX9_sign_52 ?_
        refine g_aload_n O dX9_sign_55 0 rfl rfl ?_
        refine g_get O hiX9_sign_X9 0 rfl rfl 13 (by decide) (by decide +kernel) rfl dX9_sign_56 ?_
        refine g_if_eqB (tgt := 66) O dX9_sign_59 (by decide) (fun c_14 => ?_) (fun c_14 => absurd c_14 (by decide))
        refine g_iconst (x := (nI 1)) O dX9_sign_66 (by decide +kernel) ?_
        refine g_iaddN O dX9_sign_67 ?_
        refine g_put (ws' := [(u0, .inr (9, [.ref u1, .ref u2, .ref u3, .ref u4, .ref u5, .ref u6, .int (nI kn), .ref u7, .int (bB ik), .ref u8, .int (nI ty), .ref u9, .int (nI (ta + 1)), .int (bB false), .ref u10, .ref u11])), (u8, .inl (tyI D, 60, .inl (nf tx)))]) O hiX9_sign_X9 tyX9 tyX9_ok nmX9 0 rfl rfl 12 (by decide) (by decide +kernel) rfl (tyX9_ok 12 (by decide)) rfl rfl (Nat.le_of_ble_eq_true rfl) dX9_sign_68 rfl ?_
        refine g_iload_n O dX9_sign_71 3 rfl rfl ?_
        exact E 72 _ (nI (tx ta)) _ dX9_sign_72 (by unfold sgA; rw [hs, hc]; exact ⟨rfl, rfl⟩)
      ·
        have hs_ : sgW tx ty ta iw lo hi = true := by simp only [sgW]; rw [h30, hc, c_13]; rfl
        refine g_iconst (x := (nI 1)) O dX9_sign_42 (by decide +kernel) ?_
        refine g_goto (tgt := 47) O dX9_sign_43 (by decide) ?_
        refine g_eq (st' := [.int (bB true), .ref u0]) rfl rfl rfl ?_
        have hs : sgW tx ty ta iw lo hi = true := hs_
        refine g_put (ws' := [(u0, .inr (9, [.ref u1, .ref u2, .ref u3, .ref u4, .ref u5, .ref u6, .int (nI kn), .ref u7, .int (bB ik), .ref u8, .int (nI ty), .ref u9, .int (nI ta), .int (bB true), .ref u10, .ref u11])), (u8, .inl (tyI D, 60, .inl (nf tx)))]) O hiX9_sign_X9 tyX9 tyX9_ok nmX9 0 rfl rfl 13 (by decide) (by decide +kernel) rfl (tyX9_ok 13 (by decide)) (bB_nn _) (bB_fit _) (Nat.le_of_ble_eq_true rfl) dX9_sign_47 rfl ?_
        refine g_aload_n O dX9_sign_50 0 rfl rfl ?_
        refine g_dup O dX9_sign_51 rfl ?_
        refine g_get O hiX9_sign_X9 0 rfl rfl 12 (by decide) (by decide +kernel) rfl dX9_sign_52 ?_
        refine g_aload_n O dX9_sign_55 0 rfl rfl ?_
        refine g_get O hiX9_sign_X9 0 rfl rfl 13 (by decide) (by decide +kernel) rfl dX9_sign_56 ?_
        refine g_if_eqB (tgt := 66) O dX9_sign_59 (by decide) (fun c_15 => absurd c_15 (by decide)) (fun c_15 => ?_)
        refine g_iconst (x := (nI 0)) O dX9_sign_62 (by decide +kernel) ?_
        refine g_goto (tgt := 67) O dX9_sign_63 (by decide) ?_
        refine g_iaddN O dX9_sign_67 ?_
        refine g_put (ws' := [(u0, .inr (9, [.ref u1, .ref u2, .ref u3, .ref u4, .ref u5, .ref u6, .int (nI kn), .ref u7, .int (bB ik), .ref u8, .int (nI ty), .ref u9, .int (nI (ta + 0)), .int (bB true), .ref u10, .ref u11])), (u8, .inl (tyI D, 60, .inl (nf tx)))]) O hiX9_sign_X9 tyX9 tyX9_ok nmX9 0 rfl rfl 12 (by decide) (by decide +kernel) rfl (tyX9_ok 12 (by decide)) rfl rfl (Nat.le_of_ble_eq_true rfl) dX9_sign_68 rfl ?_
        refine g_iload_n O dX9_sign_71 3 rfl rfl ?_
        exact E 72 _ (nI (tx ta)) _ dX9_sign_72 (by unfold sgA; rw [hs, hc]; exact ⟨rfl, rfl⟩)

theorem hiX9_number_X9 : ∀ w ∈ wsX90, w ∈ wsX9_number := by intro w h; simp only [wsX9_number, List.mem_append, List.mem_cons, h, or_true, true_or]
set_option maxHeartbeats 2000000 in
set_option maxRecDepth 100000 in
/-- a number is not read -/
theorem kX9_number_w (l : Launch) (D : va_G) (z : Nat × Nat × Nat) (u0 : Nat) (u1 : Nat) (u2 : Nat) (u3 : Nat) (u4 : Nat) (u5 : Nat) (u6 : Nat) (u7 : Nat) (u8 : Nat) (u9 : Nat) (u10 : Nat) (u11 : Nat) (kn : Nat) (ik : Bool) (ty : Nat) (ta : Nat) (tx : Nat → Nat) (lo : Nat) (hi : Nat) (hty : ty ≤ 60) (hta : ta ≤ 1000) (htx : ∀ j, j < ty → tx j < 65536) (hlo : lo ≤ 1) (hhi : hi ≤ 20) : CM l yX9_number wsX9_number ({ frames := 2, cells := 0, slots := 0, locals := 45 } : Room) D z [.ref u0, .int (nI lo), .int (nI hi)] [(u0, .inr (9, [.ref u1, .ref u2, .ref u3, .ref u4, .ref u5, .ref u6, .int (nI kn), .ref u7, .int (bB ik), .ref u8, .int (nI ty), .ref u9, .int (nI ta), .int (bB true), .ref u10, .ref u11])), (u8, .inl (tyI D, 60, .inl (nf tx)))] (fun r_ w_ => ∃ (r9 : Int32), r_ = some (.int r9) ∧ w_ = [(u0, .inr (9, [.ref u1, .ref u2, .ref u3, .ref u4, .ref u5, .ref u6, .int (nI kn), .ref u7, .int (bB ik), .ref u8, .int (nI ty), .ref u9, .int (nI ta), .int (bB true), .ref u10, .ref u11])), (u8, .inl (tyI D, 60, .inl (nf tx)))]) 0 0 := by
  refine CM_int (own := RX9) (cc := cX9_number) (maxL := 5) (L0 := [(0, .ref u0), (1, .int (nI lo)), (2, .int (nI hi))]) (by decide) rfl rfl (Nat.le_of_ble_eq_true rfl) rfl (fun X O E => ?_)
  refine g_aload_n O dX9_number_0 0 rfl rfl ?_
  refine g_bipush (x := (nI 48)) O dX9_number_1 (by decide +kernel) ?_
  refine g_iload_n O dX9_number_3 1 rfl rfl ?_
  refine g_iaddN O dX9_number_4 ?_
  refine g_bipush (x := (nI 57)) O dX9_number_5 (by decide +kernel) ?_
  refine g_callV (As := [.int (nI (48 + lo)), .int (nI 57)]) (wr := []) O (kX9_sign l D z u0 u1 u2 u3 u4 u5 u6 u7 u8 u9 u10 u11 kn ik ty ta true tx (48 + lo) 57 (by first | assumption | omega) (by first | assumption | omega) (by first | assumption | omega) (by first | assumption | omega) (by first | assumption | omega)) gX9_number_X9_sign rfl rfl rfl 2 (by decide +kernel) (by decide) (by decide) (q0 := 0) rfl rfl rfl [0, 1] [] rfl (by decide) rfl (by decide) (by decide) rfl rfl (Nat.le_of_ble_eq_true rfl) dX9_number_7 (fun r_1 w_2 hp => ?_)
  obtain ⟨rfl, rfl⟩ := hp
  refine g_eq (st' := [.int (nI (chV tx ty ta))]) (ws' := [(u0, .inr (9, [.ref u1, .ref u2, .ref u3, .ref u4, .ref u5, .ref u6, .int (nI kn), .ref u7, .int (bB ik), .ref u8, .int (nI ty), .ref u9, .int (nI (sgA tx ty ta true (48 + lo) 57)), .int (bB (sgW tx ty ta true (48 + lo) 57)), .ref u10, .ref u11])), (u8, .inl (tyI D, 60, .inl (nf tx)))]) rfl rfl rfl ?_
  refine g_eq (ws' := [(u0, .inr (9, [.ref u1, .ref u2, .ref u3, .ref u4, .ref u5, .ref u6, .int (nI kn), .ref u7, .int (bB ik), .ref u8, .int (nI ty), .ref u9, .int (nI ta), .int (bB true), .ref u10, .ref u11])), (u8, .inl (tyI D, 60, .inl (nf tx)))]) rfl rfl rfl ?_
  refine g_bipush (x := (nI 48)) O dX9_number_10 (by decide +kernel) ?_
  refine g_isub O dX9_number_12 ?_
  refine g_istore_n (L' := [(0, .ref u0), (1, .int (nI lo)), (2, .int (nI hi)), (3, .int ((nI (chV tx ty ta)) - (nI 48)))]) O dX9_number_13 rfl (by decide) [1, 2, 3, 0] rfl ?_
  refine g_aload_n O dX9_number_14 0 rfl rfl ?_
  refine g_get O hiX9_number_X9 0 rfl rfl 13 (by decide) (by decide +kernel) rfl dX9_number_15 ?_
  refine g_if_neB (tgt := 80) O dX9_number_18 (by decide) (fun c_3 => ?_) (fun c_3 => absurd c_3 (by decide))
  refine g_iconst (x := (nI 0)) O dX9_number_80 (by decide +kernel) ?_
  refine g_istore (L' := [(0, .ref u0), (1, .int (nI lo)), (2, .int (nI hi)), (3, .int ((nI (chV tx ty ta)) - (nI 48))), (4, .int (nI 0))]) O dX9_number_81 (by decide) [1, 2, 3, 4, 0] rfl ?_
  refine g_iload O dX9_number_83 4 rfl ?_
  refine g_if_eqN (tgt := 107) O (by omega) dX9_number_85 (by decide) (fun c_4 => ?_) (fun c_4 => absurd c_4 (by decide))
  refine g_iload_n O dX9_number_107 3 rfl rfl ?_
  exact E 108 _ ((nI (chV tx ty ta)) - (nI 48)) _ dX9_number_108 (⟨_, rfl, rfl⟩)

set_option maxHeartbeats 2000000 in
set_option maxRecDepth 100000 in
/-- a number is read -/
theorem kX9_number_o (l : Launch) (D : va_G) (z : Nat × Nat × Nat) (u0 : Nat) (u1 : Nat) (u2 : Nat) (u3 : Nat) (u4 : Nat) (u5 : Nat) (u6 : Nat) (u7 : Nat) (u8 : Nat) (u9 : Nat) (u10 : Nat) (u11 : Nat) (kn : Nat) (ik : Bool) (ty : Nat) (ta : Nat) (tx : Nat → Nat) (lo : Nat) (hi : Nat) (hty : ty ≤ 60) (hta : ta ≤ 1000) (htx : ∀ j, j < ty → tx j < 65536) (hlo : lo ≤ 1) (hhi : hi ≤ 20) (hh9 : 9 ≤ hi) : CM l yX9_number wsX9_number ({ frames := 2, cells := 0, slots := 0, locals := 45 } : Room) D z [.ref u0, .int (nI lo), .int (nI hi)] [(u0, .inr (9, [.ref u1, .ref u2, .ref u3, .ref u4, .ref u5, .ref u6, .int (nI kn), .ref u7, .int (bB ik), .ref u8, .int (nI ty), .ref u9, .int (nI ta), .int (bB false), .ref u10, .ref u11])), (u8, .inl (tyI D, 60, .inl (nf tx)))] (fun r_ w_ => ∃ (r9 : Int32), (∀ v, (rdN tx ty ta lo hi).1 = some v → r9 = nI v) ∧ r_ = some (.int r9) ∧ w_ = [(u0, .inr (9, [.ref u1, .ref u2, .ref u3, .ref u4, .ref u5, .ref u6, .int (nI kn), .ref u7, .int (bB ik), .ref u8, .int (nI ty), .ref u9, .int (nI ((rdN tx ty ta lo hi).2)), .int (bB ((rdN tx ty ta lo hi).1.isNone)), .ref u10, .ref u11])), (u8, .inl (tyI D, 60, .inl (nf tx)))]) 0 0 := by
  refine CM_int (own := RX9) (cc := cX9_number) (maxL := 5) (L0 := [(0, .ref u0), (1, .int (nI lo)), (2, .int (nI hi))]) (by decide) rfl rfl (Nat.le_of_ble_eq_true rfl) rfl (fun X O E => ?_)
  refine g_aload_n O dX9_number_0 0 rfl rfl ?_
  refine g_bipush (x := (nI 48)) O dX9_number_1 (by decide +kernel) ?_
  refine g_iload_n O dX9_number_3 1 rfl rfl ?_
  refine g_iaddN O dX9_number_4 ?_
  refine g_bipush (x := (nI 57)) O dX9_number_5 (by decide +kernel) ?_
  refine g_callV (As := [.int (nI (48 + lo)), .int (nI 57)]) (wr := []) O (kX9_sign l D z u0 u1 u2 u3 u4 u5 u6 u7 u8 u9 u10 u11 kn ik ty ta false tx (48 + lo) 57 (by first | assumption | omega) (by first | assumption | omega) (by first | assumption | omega) (by first | assumption | omega) (by first | assumption | omega)) gX9_number_X9_sign rfl rfl rfl 2 (by decide +kernel) (by decide) (by decide) (q0 := 0) rfl rfl rfl [0, 1] [] rfl (by decide) rfl (by decide) (by decide) rfl rfl (Nat.le_of_ble_eq_true rfl) dX9_number_7 (fun r_1 w_2 hp => ?_)
  obtain ⟨rfl, rfl⟩ := hp
  refine g_eq (st' := [.int (nI (chV tx ty ta))]) (ws' := [(u0, .inr (9, [.ref u1, .ref u2, .ref u3, .ref u4, .ref u5, .ref u6, .int (nI kn), .ref u7, .int (bB ik), .ref u8, .int (nI ty), .ref u9, .int (nI (sgA tx ty ta false (48 + lo) 57)), .int (bB (sgW tx ty ta false (48 + lo) 57)), .ref u10, .ref u11])), (u8, .inl (tyI D, 60, .inl (nf tx)))]) rfl rfl rfl ?_
  refine g_bipush (x := (nI 48)) O dX9_number_10 (by decide +kernel) ?_
  refine g_isub O dX9_number_12 ?_
  refine g_istore_n (L' := [(0, .ref u0), (1, .int (nI lo)), (2, .int (nI hi)), (3, .int ((nI (chV tx ty ta)) - (nI 48)))]) O dX9_number_13 rfl (by decide) [1, 2, 3, 0] rfl ?_
  refine g_aload_n O dX9_number_14 0 rfl rfl ?_
  refine g_get O hiX9_number_X9 0 rfl rfl 13 (by decide) (by decide +kernel) rfl dX9_number_15 ?_
  refine g_if_neB (tgt := 80) O dX9_number_18 (by decide) (fun c_3 => ?_) (fun c_3 => ?_)
  ·
    have hsg := sg_f c_3
    have he := rdN_n (hi := hi) hlo hsg.1
    refine g_eq (ws' := [(u0, .inr (9, [.ref u1, .ref u2, .ref u3, .ref u4, .ref u5, .ref u6, .int (nI kn), .ref u7, .int (bB ik), .ref u8, .int (nI ty), .ref u9, .int (nI ta), .int (bB true), .ref u10, .ref u11])), (u8, .inl (tyI D, 60, .inl (nf tx)))]) rfl rfl (by rw [hsg.2, c_3]) ?_
    refine g_iconst (x := (nI 0)) O dX9_number_80 (by decide +kernel) ?_
    refine g_istore (L' := [(0, .ref u0), (1, .int (nI lo)), (2, .int (nI hi)), (3, .int ((nI (chV tx ty ta)) - (nI 48))), (4, .int (nI 0))]) O dX9_number_81 (by decide) [1, 2, 3, 4, 0] rfl ?_
    refine g_iload O dX9_number_83 4 rfl ?_
    refine g_if_eqN (tgt := 107) O (by omega) dX9_number_85 (by decide) (fun c_4 => ?_) (fun c_4 => absurd c_4 (by decide))
    refine g_iload_n O dX9_number_107 3 rfl rfl ?_
    exact E 108 _ ((nI (chV tx ty ta)) - (nI 48)) _ dX9_number_108 (by rw [he]; exact ⟨_, (fun v hv => by cases hv), rfl, rfl⟩)
  ·
    obtain ⟨g1, g2, g3, g4, g5⟩ := sg_t (by omega) c_3
    refine g_eq (ws' := [(u0, .inr (9, [.ref u1, .ref u2, .ref u3, .ref u4, .ref u5, .ref u6, .int (nI kn), .ref u7, .int (bB ik), .ref u8, .int (nI ty), .ref u9, .int (nI (ta + 1)), .int (bB false), .ref u10, .ref u11])), (u8, .inl (tyI D, 60, .inl (nf tx)))]) (L' := [(0, .ref u0), (1, .int (nI lo)), (2, .int (nI hi)), (3, .int (nI (tx ta - 48)))]) rfl (by rw [g4, pk_sub (by omega)]) (by rw [g5, c_3]) ?_
    refine g_iload_n O dX9_number_21 3 rfl rfl ?_
    refine g_if_leN (tgt := 80) O (by omega) dX9_number_22 (by decide) (fun c_5 => ?_) (fun c_5 => ?_)
    ·
      have he := rdN_1 (hi := hi) g1 g2 g3 (Or.inl (by omega))
      refine g_iconst (x := (nI 0)) O dX9_number_80 (by decide +kernel) ?_
      refine g_istore (L' := [(0, .ref u0), (1, .int (nI lo)), (2, .int (nI hi)), (3, .int (nI (tx ta - 48))), (4, .int (nI 0))]) O dX9_number_81 (by decide) [1, 2, 3, 4, 0] rfl ?_
      refine g_iload O dX9_number_83 4 rfl ?_
      refine g_if_eqN (tgt := 107) O (by omega) dX9_number_85 (by decide) (fun c_6 => ?_) (fun c_6 => absurd c_6 (by decide))
      refine g_iload_n O dX9_number_107 3 rfl rfl ?_
      exact E 108 _ (nI (tx ta - 48)) _ dX9_number_108 (by rw [he]; exact ⟨_, fun v hv => by cases hv; rfl, rfl, rfl⟩)
    ·
      have h22 := c_5
      refine g_aload_n O dX9_number_25 0 rfl rfl ?_
      refine g_get O hiX9_number_X9 0 rfl rfl 12 (by decide) (by decide +kernel) rfl dX9_number_26 ?_
      refine g_aload_n O dX9_number_29 0 rfl rfl ?_
      refine g_get O hiX9_number_X9 0 rfl rfl 10 (by decide) (by decide +kernel) rfl dX9_number_30 ?_
      refine g_icmp_geN (tgt := 80) O (by omega) (by omega) dX9_number_33 (by decide) (fun c_7 => ?_) (fun c_7 => ?_)
      ·
        have he := rdN_1 (hi := hi) g1 g2 g3 (Or.inr (Or.inl (by omega)))
        refine g_iconst (x := (nI 0)) O dX9_number_80 (by decide +kernel) ?_
        refine g_istore (L' := [(0, .ref u0), (1, .int (nI lo)), (2, .int (nI hi)), (3, .int (nI (tx ta - 48))), (4, .int (nI 0))]) O dX9_number_81 (by decide) [1, 2, 3, 4, 0] rfl ?_
        refine g_iload O dX9_number_83 4 rfl ?_
        refine g_if_eqN (tgt := 107) O (by omega) dX9_number_85 (by decide) (fun c_8 => ?_) (fun c_8 => absurd c_8 (by decide))
        refine g_iload_n O dX9_number_107 3 rfl rfl ?_
        exact E 108 _ (nI (tx ta - 48)) _ dX9_number_108 (by rw [he]; exact ⟨_, fun v hv => by cases hv; rfl, rfl, rfl⟩)
      ·
        have hn1 : ta + 1 < ty := by omega
        have htx1 := htx (ta + 1) hn1
        refine g_aload_n O dX9_number_36 0 rfl rfl ?_
        refine g_get O hiX9_number_X9 0 rfl rfl 9 (by decide) (by decide +kernel) rfl dX9_number_37 ?_
        refine g_aload_n O dX9_number_40 0 rfl rfl ?_
        refine g_get O hiX9_number_X9 0 rfl rfl 12 (by decide) (by decide +kernel) rfl dX9_number_41 ?_
        refine g_ialdN O 1 rfl (by omega) (by omega) dX9_number_44 ?_
        refine g_bipush (x := (nI 48)) O dX9_number_45 (by decide +kernel) ?_
        refine g_bipush (x := (nI 57)) O dX9_number_47 (by decide +kernel) ?_
        refine g_callS (As := [.int (nI (tx (ta + 1))), .int (nI 48), .int (nI 57)]) (wr := [(u0, .inr (9, [.ref u1, .ref u2, .ref u3, .ref u4, .ref u5, .ref u6, .int (nI kn), .ref u7, .int (bB ik), .ref u8, .int (nI ty), .ref u9, .int (nI (ta + 1)), .int (bB false), .ref u10, .ref u11])), (u8, .inl (tyI D, 60, .inl (nf tx)))]) O (kX9_in l D z (nI (tx (ta + 1))) (nI 48) (nI 57) ) gX9_number_X9_in rfl rfl rfl 3 (by decide +kernel) (by decide) (by decide) [] [0, 1] rfl (by decide) rfl (by decide) (by decide) rfl rfl (Nat.le_of_ble_eq_true rfl) dX9_number_49 (fun r_9 w_10 hp => ?_)
        obtain ⟨rfl, rfl⟩ := hp
        refine g_eq (st' := [.int (bB (inI (nI (tx (ta + 1))) (nI 48) (nI 57)))]) (ws' := [(u0, .inr (9, [.ref u1, .ref u2, .ref u3, .ref u4, .ref u5, .ref u6, .int (nI kn), .ref u7, .int (bB ik), .ref u8, .int (nI ty), .ref u9, .int (nI (ta + 1)), .int (bB false), .ref u10, .ref u11])), (u8, .inl (tyI D, 60, .inl (nf tx)))]) rfl rfl rfl ?_
        refine g_eq (st' := [.int (bB (decide (48 ≤ tx (ta + 1) ∧ tx (ta + 1) ≤ 57)))]) (by rw [inI_N (by omega) (by decide) (by decide)]) rfl rfl ?_
        refine g_if_eqB (tgt := 80) O dX9_number_52 (by decide) (fun c_11 => ?_) (fun c_11 => ?_)
        ·
          have he := rdN_1 (hi := hi) g1 g2 g3 (Or.inr (Or.inl (fun h => (of_decide_eq_false c_11) h.2)))
          refine g_iconst (x := (nI 0)) O dX9_number_80 (by decide +kernel) ?_
          refine g_istore (L' := [(0, .ref u0), (1, .int (nI lo)), (2, .int (nI hi)), (3, .int (nI (tx ta - 48))), (4, .int (nI 0))]) O dX9_number_81 (by decide) [1, 2, 3, 4, 0] rfl ?_
          refine g_iload O dX9_number_83 4 rfl ?_
          refine g_if_eqN (tgt := 107) O (by omega) dX9_number_85 (by decide) (fun c_12 => ?_) (fun c_12 => absurd c_12 (by decide))
          refine g_iload_n O dX9_number_107 3 rfl rfl ?_
          exact E 108 _ (nI (tx ta - 48)) _ dX9_number_108 (by rw [he]; exact ⟨_, fun v hv => by cases hv; rfl, rfl, rfl⟩)
        ·
          have hn2 := of_decide_eq_true c_11
          refine g_bipush (x := (nI 10)) O dX9_number_55 (by decide +kernel) ?_
          refine g_iload_n O dX9_number_57 3 rfl rfl ?_
          refine g_imulN O dX9_number_58 ?_
          refine g_aload_n O dX9_number_59 0 rfl rfl ?_
          refine g_get O hiX9_number_X9 0 rfl rfl 9 (by decide) (by decide +kernel) rfl dX9_number_60 ?_
          refine g_aload_n O dX9_number_63 0 rfl rfl ?_
          refine g_get O hiX9_number_X9 0 rfl rfl 12 (by decide) (by decide +kernel) rfl dX9_number_64 ?_
          refine g_ialdN O 1 rfl (by omega) (by omega) dX9_number_67 ?_
          refine g_iaddN O dX9_number_68 ?_
          refine g_bipush (x := (nI 48)) O dX9_number_69 (by decide +kernel) ?_
          refine g_isubN O (by omega) dX9_number_71 ?_
          refine g_iload_n O dX9_number_72 2 rfl rfl ?_
          refine g_icmp_gtN (tgt := 80) O (by omega) (by omega) dX9_number_73 (by decide) (fun c_13 => ?_) (fun c_13 => ?_)
          ·
            have he := rdN_1 (hi := hi) g1 g2 g3 (Or.inr (Or.inr (by omega)))
            refine g_iconst (x := (nI 0)) O dX9_number_80 (by decide +kernel) ?_
            refine g_istore (L' := [(0, .ref u0), (1, .int (nI lo)), (2, .int (nI hi)), (3, .int (nI (tx ta - 48))), (4, .int (nI 0))]) O dX9_number_81 (by decide) [1, 2, 3, 4, 0] rfl ?_
            refine g_iload O dX9_number_83 4 rfl ?_
            refine g_if_eqN (tgt := 107) O (by omega) dX9_number_85 (by decide) (fun c_14 => ?_) (fun c_14 => absurd c_14 (by decide))
            refine g_iload_n O dX9_number_107 3 rfl rfl ?_
            exact E 108 _ (nI (tx ta - 48)) _ dX9_number_108 (by rw [he]; exact ⟨_, fun v hv => by cases hv; rfl, rfl, rfl⟩)
          ·
            have he := rdN_2 (hi := hi) g1 g2 g3 (by omega) ⟨hn1, hn2⟩ (by omega)
            refine g_iconst (x := (nI 1)) O dX9_number_76 (by decide +kernel) ?_
            refine g_goto (tgt := 81) O dX9_number_77 (by decide) ?_
            refine g_istore (L' := [(0, .ref u0), (1, .int (nI lo)), (2, .int (nI hi)), (3, .int (nI (tx ta - 48))), (4, .int (nI 1))]) O dX9_number_81 (by decide) [1, 2, 3, 4, 0] rfl ?_
            refine g_iload O dX9_number_83 4 rfl ?_
            refine g_if_eqN (tgt := 107) O (by omega) dX9_number_85 (by decide) (fun c_15 => absurd c_15 (by decide)) (fun c_15 => ?_)
            refine g_bipush (x := (nI 10)) O dX9_number_88 (by decide +kernel) ?_
            refine g_iload_n O dX9_number_90 3 rfl rfl ?_
            refine g_imulN O dX9_number_91 ?_
            refine g_aload_n O dX9_number_92 0 rfl rfl ?_
            refine g_bipush (x := (nI 48)) O dX9_number_93 (by decide +kernel) ?_
            refine g_bipush (x := (nI 57)) O dX9_number_95 (by decide +kernel) ?_
            refine g_callV (As := [.int (nI 48), .int (nI 57)]) (wr := []) O (kX9_sign l D z u0 u1 u2 u3 u4 u5 u6 u7 u8 u9 u10 u11 kn ik ty (ta + 1) false tx 48 57 (by first | assumption | omega) (by first | assumption | omega) (by first | assumption | omega) (by first | assumption | omega) (by first | assumption | omega)) gX9_number_X9_sign rfl rfl rfl 2 (by decide +kernel) (by decide) (by decide) (q0 := 0) rfl rfl rfl [0, 1] [] rfl (by decide) rfl (by decide) (by decide) rfl rfl (Nat.le_of_ble_eq_true rfl) dX9_number_97 (fun r_16 w_17 hp => ?_)
            obtain ⟨rfl, rfl⟩ := hp
            refine g_eq (st' := [.int (nI (chV tx ty (ta + 1))), .int (nI (10 * (tx ta - 48)))]) (ws' := [(u0, .inr (9, [.ref u1, .ref u2, .ref u3, .ref u4, .ref u5, .ref u6, .int (nI kn), .ref u7, .int (bB ik), .ref u8, .int (nI ty), .ref u9, .int (nI (sgA tx ty (ta + 1) false 48 57)), .int (bB (sgW tx ty (ta + 1) false 48 57)), .ref u10, .ref u11])), (u8, .inl (tyI D, 60, .inl (nf tx)))]) rfl rfl rfl ?_
            obtain ⟨w1, w2, w3⟩ := sg_ok (tx := tx) (lo := 48) (hi := 57) hn1 hn2.1 hn2.2
            refine g_eq (st' := [.int (nI (tx (ta + 1))), .int (nI (10 * (tx ta - 48)))]) (ws' := [(u0, .inr (9, [.ref u1, .ref u2, .ref u3, .ref u4, .ref u5, .ref u6, .int (nI kn), .ref u7, .int (bB ik), .ref u8, .int (nI ty), .ref u9, .int (nI (ta + 1 + 1)), .int (bB false), .ref u10, .ref u11])), (u8, .inl (tyI D, 60, .inl (nf tx)))]) (by rw [w3]) rfl (by rw [w1, w2]) ?_
            refine g_iaddN O dX9_number_100 ?_
            refine g_bipush (x := (nI 48)) O dX9_number_101 (by decide +kernel) ?_
            refine g_isubN O (by omega) dX9_number_103 ?_
            refine g_goto (tgt := 108) O dX9_number_104 (by decide) ?_
            exact E 108 _ (nI (((10 * (tx ta - 48)) + (tx (ta + 1))) - 48)) _ dX9_number_108 (by rw [he]; exact ⟨_, fun v hv => by cases hv; congr 1; omega, rfl, rfl⟩)
