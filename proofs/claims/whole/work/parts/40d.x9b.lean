set_option maxHeartbeats 2000000 in
set_option maxRecDepth 100000 in
theorem kX9_set_ok (l : Launch) (D : va_G) (z : Nat × Nat × Nat) (u0 : Nat) (u1 : Nat) (u2 : Nat) (u3 : Nat) (u4 : Nat) (u5 : Nat) (u6 : Nat) (u7 : Nat) (u8 : Nat) (u9 : Nat) (u10 : Nat) (u11 : Nat) (kn : Nat) (ik : Bool) (ty : Nat) (ta : Nat) (iw : Bool) (M : Nat → Int32) (Bf : Nat → Int32) (s : SV) (w : Nat) (x : Int32) (hM : RM M s) (hkn : kn ≤ 4) (hw : w < 4) (hv1 : ¬ x < zL w) (hv2 : x ≤ zM w) (hb : ¬ x = sv_se s w) : CM l yX9_set wsX9_set ({ frames := 1, cells := 0, slots := 0, locals := 22 } : Room) D z [.ref u0, .int (nI w), .int x] [(u0, .inr (9, [.ref u1, .ref u2, .ref u3, .ref u4, .ref u5, .ref u6, .int (nI kn), .ref u7, .int (bB ik), .ref u8, .int (nI ty), .ref u9, .int (nI ta), .int (bB iw), .ref u10, .ref u11])), (u5, .inl (tyI D, 208, .inl M)), (u6, .inl (tyI D, 832, .inl Bf))] (fun r_ w_ => ∃ (M9 : Nat → Int32), (RM M9 (mkS (sv_g s) (sv_cc s) (sv_cr s) (sv_nc s) (upd (sv_se s) w x) (sv_fs s) (sv_fa s) (sv_fk s) (sv_ps s) (sv_la s) (sv_st s) (sv_sw s) (sv_fl s) (sv_sk s) (sv_mu s))) ∧ r_ = some (.int (sv_se s w)) ∧ w_ = [(u0, .inr (9, [.ref u1, .ref u2, .ref u3, .ref u4, .ref u5, .ref u6, .int (nI (rhN kn)), .ref u7, .int (bB ik), .ref u8, .int (nI ty), .ref u9, .int (nI ta), .int (bB iw), .ref u10, .ref u11])), (u5, .inl (tyI D, 208, .inl M9)), (u6, .inl (tyI D, 832, .inl (kwF Bf M kn)))]) 0 0 := by
  refine CM_int (own := RX9) (cc := cX9_set) (maxL := 6) (L0 := [(0, .ref u0), (1, .int (nI w)), (2, .int x)]) (by decide) rfl rfl (Nat.le_of_ble_eq_true rfl) rfl (fun X O E => ?_)
  rcases (show w = 0 ∨ w = 1 ∨ w = 2 ∨ w = 3 by omega) with rfl | rfl | rfl | rfl
  ·
    refine g_iload_n O dX9_set_0 1 rfl rfl ?_
    refine g_iconst (x := (nI 1)) O dX9_set_1 (by decide +kernel) ?_
    refine g_icmp_neN (tgt := 9) O (by omega) (by omega) dX9_set_2 (by decide) (fun c_1 => ?_) (fun c_1 => absurd c_1 (by decide))
    refine g_iload_n O dX9_set_9 1 rfl rfl ?_
    refine g_iconst (x := (nI 3)) O dX9_set_10 (by decide +kernel) ?_
    refine g_icmp_neN (tgt := 19) O (by omega) (by omega) dX9_set_11 (by decide) (fun c_2 => ?_) (fun c_2 => absurd c_2 (by decide))
    refine g_iconst (x := (nI 0)) O dX9_set_19 (by decide +kernel) ?_
    refine g_istore_n (L' := [(0, .ref u0), (1, .int (nI 0)), (2, .int x), (3, .int (nI 0))]) O dX9_set_20 rfl (by decide) [1, 2, 3, 0] rfl ?_
    refine g_iload_n O dX9_set_21 1 rfl rfl ?_
    refine g_iconst (x := (nI 1)) O dX9_set_22 (by decide +kernel) ?_
    refine g_icmp_neN (tgt := 32) O (by omega) (by omega) dX9_set_23 (by decide) (fun c_3 => ?_) (fun c_3 => absurd c_3 (by decide))
    refine g_iload_n O dX9_set_32 1 rfl rfl ?_
    refine g_iconst (x := (nI 3)) O dX9_set_33 (by decide +kernel) ?_
    refine g_icmp_neN (tgt := 43) O (by omega) (by omega) dX9_set_34 (by decide) (fun c_4 => ?_) (fun c_4 => absurd c_4 (by decide))
    refine g_bipush (x := (nI 60)) O dX9_set_43 (by decide +kernel) ?_
    refine g_istore (L' := [(0, .ref u0), (1, .int (nI 0)), (2, .int x), (3, .int (nI 0)), (4, .int (nI 60))]) O dX9_set_45 (by decide) [1, 2, 3, 4, 0] rfl ?_
    refine g_iload_n O dX9_set_47 1 rfl rfl ?_
    refine g_iconst (x := (nI 0)) O dX9_set_48 (by decide +kernel) ?_
    refine g_iconst (x := (nI 3)) O dX9_set_49 (by decide +kernel) ?_
    refine g_callS (As := [.int (nI 0), .int (nI 0), .int (nI 3)]) (wr := [(u0, .inr (9, [.ref u1, .ref u2, .ref u3, .ref u4, .ref u5, .ref u6, .int (nI kn), .ref u7, .int (bB ik), .ref u8, .int (nI ty), .ref u9, .int (nI ta), .int (bB iw), .ref u10, .ref u11])), (u5, .inl (tyI D, 208, .inl M)), (u6, .inl (tyI D, 832, .inl Bf))]) O (kX9_in l D z (nI 0) (nI 0) (nI 3) ) gX9_set_X9_in rfl rfl rfl 3 (by decide +kernel) (by decide) (by decide) [] [0, 1, 2] rfl (by decide) rfl (by decide) (by decide) rfl rfl (Nat.le_of_ble_eq_true rfl) dX9_set_50 (fun r_5 w_6 hp => ?_)
    obtain ⟨rfl, rfl⟩ := hp
    refine g_eq (st' := [.int (bB (inI (nI 0) (nI 0) (nI 3)))]) (ws' := [(u0, .inr (9, [.ref u1, .ref u2, .ref u3, .ref u4, .ref u5, .ref u6, .int (nI kn), .ref u7, .int (bB ik), .ref u8, .int (nI ty), .ref u9, .int (nI ta), .int (bB iw), .ref u10, .ref u11])), (u5, .inl (tyI D, 208, .inl M)), (u6, .inl (tyI D, 832, .inl Bf))]) rfl rfl rfl ?_
    refine g_eq (st' := [.int (bB (rgB (nI 0) 4))]) (by rw [inI_r _ (by decide)]) rfl rfl ?_
    refine g_if_eqB (tgt := 66) O dX9_set_53 (by decide) (fun c_7 => absurd c_7 (by decide)) (fun c_7 => ?_)
    refine g_iload_n O dX9_set_56 2 rfl rfl ?_
    refine g_iload_n O dX9_set_57 3 rfl rfl ?_
    refine g_iload O dX9_set_58 4 rfl ?_
    refine g_callS (As := [.int x, .int (nI 0), .int (nI 60)]) (wr := [(u0, .inr (9, [.ref u1, .ref u2, .ref u3, .ref u4, .ref u5, .ref u6, .int (nI kn), .ref u7, .int (bB ik), .ref u8, .int (nI ty), .ref u9, .int (nI ta), .int (bB iw), .ref u10, .ref u11])), (u5, .inl (tyI D, 208, .inl M)), (u6, .inl (tyI D, 832, .inl Bf))]) O (kX9_in l D z x (nI 0) (nI 60) ) gX9_set_X9_in rfl rfl rfl 3 (by decide +kernel) (by decide) (by decide) [] [0, 1, 2] rfl (by decide) rfl (by decide) (by decide) rfl rfl (Nat.le_of_ble_eq_true rfl) dX9_set_60 (fun r_8 w_9 hp => ?_)
    obtain ⟨rfl, rfl⟩ := hp
    refine g_eq (st' := [.int (bB (inI x (nI 0) (nI 60)))]) (ws' := [(u0, .inr (9, [.ref u1, .ref u2, .ref u3, .ref u4, .ref u5, .ref u6, .int (nI kn), .ref u7, .int (bB ik), .ref u8, .int (nI ty), .ref u9, .int (nI ta), .int (bB iw), .ref u10, .ref u11])), (u5, .inl (tyI D, 208, .inl M)), (u6, .inl (tyI D, 832, .inl Bf))]) rfl rfl rfl ?_
    refine g_if_neB (tgt := 69) O dX9_set_63 (by decide) (fun c_10 => ?_) (fun c_10 => absurd c_10 (by intro h; have h2 := inI_t (Int32.not_lt.mp hv1) hv2; exact absurd (h2.symm.trans h) (by decide)))
    refine g_aload_n O dX9_set_69 0 rfl rfl ?_
    refine g_get O hiX9_set_X9 0 rfl rfl 4 (by decide) (by decide +kernel) rfl dX9_set_70 ?_
    refine g_sipush (x := (nI 144)) O dX9_set_73 (by decide +kernel) ?_
    refine g_iload_n O dX9_set_76 1 rfl rfl ?_
    refine g_iaddN O dX9_set_77 ?_
    refine g_ialdN O 1 rfl (by omega) (by omega) dX9_set_78 ?_
    refine g_eq (st' := [.int (sv_se s 0)]) (by rw [RM_se hM (show 0 < 4 by omega)]) rfl rfl ?_
    refine g_istore (L' := [(0, .ref u0), (1, .int (nI 0)), (2, .int x), (3, .int (nI 0)), (4, .int (nI 60)), (5, .int (sv_se s 0))]) O dX9_set_79 (by decide) [1, 2, 3, 4, 5, 0] rfl ?_
    refine g_iload O dX9_set_81 5 rfl ?_
    refine g_iload_n O dX9_set_83 2 rfl rfl ?_
    refine g_icmp_ne (tgt := 90) O dX9_set_84 (by decide) (fun c_11 => ?_) (fun c_11 => absurd c_11 (fun h2 => hb h2.symm))
    refine g_aload_n O dX9_set_90 0 rfl rfl ?_
    refine g_callV (As := []) (wr := []) O (kX9_know l D z u0 u1 u2 u3 u4 u5 u6 u7 u8 u9 u10 u11 kn ik ty ta iw M Bf (by first | assumption | omega)) gX9_set_X9_know rfl rfl rfl 0 (by decide +kernel) (by decide) (by decide) (q0 := 0) rfl rfl rfl [0, 1, 2] [] rfl (by decide) rfl (by decide) (by decide) rfl rfl (Nat.le_of_ble_eq_true rfl) dX9_set_91 (fun r_12 w_13 hp => ?_)
    obtain ⟨rfl, rfl⟩ := hp
    refine g_eq (st' := []) (ws' := [(u0, .inr (9, [.ref u1, .ref u2, .ref u3, .ref u4, .ref u5, .ref u6, .int (nI (rhN kn)), .ref u7, .int (bB ik), .ref u8, .int (nI ty), .ref u9, .int (nI ta), .int (bB iw), .ref u10, .ref u11])), (u5, .inl (tyI D, 208, .inl M)), (u6, .inl (tyI D, 832, .inl (kwF Bf M kn)))]) rfl rfl rfl ?_
    refine g_aload_n O dX9_set_94 0 rfl rfl ?_
    refine g_get O hiX9_set_X9 0 rfl rfl 4 (by decide) (by decide +kernel) rfl dX9_set_95 ?_
    refine g_sipush (x := (nI 144)) O dX9_set_98 (by decide +kernel) ?_
    refine g_iload_n O dX9_set_101 1 rfl rfl ?_
    refine g_iaddN O dX9_set_102 ?_
    refine g_iload_n O dX9_set_103 2 rfl rfl ?_
    refine g_iastN (f' := (upd M (144 + 0) x)) (ws' := [(u0, .inr (9, [.ref u1, .ref u2, .ref u3, .ref u4, .ref u5, .ref u6, .int (nI (rhN kn)), .ref u7, .int (bB ik), .ref u8, .int (nI ty), .ref u9, .int (nI ta), .int (bB iw), .ref u10, .ref u11])), (u5, .inl (tyI D, 208, .inl (upd M (144 + 0) x))), (u6, .inl (tyI D, 832, .inl (kwF Bf M kn)))]) O 1 rfl (by omega) (by omega) dX9_set_104 rfl rfl ?_
    have hMf : RM (upd M (144 + 0) x) (s_se s (upd (sv_se s) 0 x)) := RM_wse hM (by omega)
    generalize (upd M (144 + 0) x) = M1 at hMf ⊢
    refine g_iload O dX9_set_105 5 rfl ?_
    exact E 107 _ (sv_se s 0) _ dX9_set_107 (⟨_, hMf, rfl, rfl⟩)
  ·
    refine g_iload_n O dX9_set_0 1 rfl rfl ?_
    refine g_iconst (x := (nI 1)) O dX9_set_1 (by decide +kernel) ?_
    refine g_icmp_neN (tgt := 9) O (by omega) (by omega) dX9_set_2 (by decide) (fun c_14 => absurd c_14 (by decide)) (fun c_14 => ?_)
    refine g_iconst (x := (nI 1)) O dX9_set_5 (by decide +kernel) ?_
    refine g_goto (tgt := 20) O dX9_set_6 (by decide) ?_
    refine g_istore_n (L' := [(0, .ref u0), (1, .int (nI 1)), (2, .int x), (3, .int (nI 1))]) O dX9_set_20 rfl (by decide) [1, 2, 3, 0] rfl ?_
    refine g_iload_n O dX9_set_21 1 rfl rfl ?_
    refine g_iconst (x := (nI 1)) O dX9_set_22 (by decide +kernel) ?_
    refine g_icmp_neN (tgt := 32) O (by omega) (by omega) dX9_set_23 (by decide) (fun c_15 => absurd c_15 (by decide)) (fun c_15 => ?_)
    refine g_sipush (x := (nI 150)) O dX9_set_26 (by decide +kernel) ?_
    refine g_goto (tgt := 45) O dX9_set_29 (by decide) ?_
    refine g_istore (L' := [(0, .ref u0), (1, .int (nI 1)), (2, .int x), (3, .int (nI 1)), (4, .int (nI 150))]) O dX9_set_45 (by decide) [1, 2, 3, 4, 0] rfl ?_
    refine g_iload_n O dX9_set_47 1 rfl rfl ?_
    refine g_iconst (x := (nI 0)) O dX9_set_48 (by decide +kernel) ?_
    refine g_iconst (x := (nI 3)) O dX9_set_49 (by decide +kernel) ?_
    refine g_callS (As := [.int (nI 1), .int (nI 0), .int (nI 3)]) (wr := [(u0, .inr (9, [.ref u1, .ref u2, .ref u3, .ref u4, .ref u5, .ref u6, .int (nI kn), .ref u7, .int (bB ik), .ref u8, .int (nI ty), .ref u9, .int (nI ta), .int (bB iw), .ref u10, .ref u11])), (u5, .inl (tyI D, 208, .inl M)), (u6, .inl (tyI D, 832, .inl Bf))]) O (kX9_in l D z (nI 1) (nI 0) (nI 3) ) gX9_set_X9_in rfl rfl rfl 3 (by decide +kernel) (by decide) (by decide) [] [0, 1, 2] rfl (by decide) rfl (by decide) (by decide) rfl rfl (Nat.le_of_ble_eq_true rfl) dX9_set_50 (fun r_16 w_17 hp => ?_)
    obtain ⟨rfl, rfl⟩ := hp
    refine g_eq (st' := [.int (bB (inI (nI 1) (nI 0) (nI 3)))]) (ws' := [(u0, .inr (9, [.ref u1, .ref u2, .ref u3, .ref u4, .ref u5, .ref u6, .int (nI kn), .ref u7, .int (bB ik), .ref u8, .int (nI ty), .ref u9, .int (nI ta), .int (bB iw), .ref u10, .ref u11])), (u5, .inl (tyI D, 208, .inl M)), (u6, .inl (tyI D, 832, .inl Bf))]) rfl rfl rfl ?_
    refine g_eq (st' := [.int (bB (rgB (nI 1) 4))]) (by rw [inI_r _ (by decide)]) rfl rfl ?_
    refine g_if_eqB (tgt := 66) O dX9_set_53 (by decide) (fun c_18 => absurd c_18 (by decide)) (fun c_18 => ?_)
    refine g_iload_n O dX9_set_56 2 rfl rfl ?_
    refine g_iload_n O dX9_set_57 3 rfl rfl ?_
    refine g_iload O dX9_set_58 4 rfl ?_
    refine g_callS (As := [.int x, .int (nI 1), .int (nI 150)]) (wr := [(u0, .inr (9, [.ref u1, .ref u2, .ref u3, .ref u4, .ref u5, .ref u6, .int (nI kn), .ref u7, .int (bB ik), .ref u8, .int (nI ty), .ref u9, .int (nI ta), .int (bB iw), .ref u10, .ref u11])), (u5, .inl (tyI D, 208, .inl M)), (u6, .inl (tyI D, 832, .inl Bf))]) O (kX9_in l D z x (nI 1) (nI 150) ) gX9_set_X9_in rfl rfl rfl 3 (by decide +kernel) (by decide) (by decide) [] [0, 1, 2] rfl (by decide) rfl (by decide) (by decide) rfl rfl (Nat.le_of_ble_eq_true rfl) dX9_set_60 (fun r_19 w_20 hp => ?_)
    obtain ⟨rfl, rfl⟩ := hp
    refine g_eq (st' := [.int (bB (inI x (nI 1) (nI 150)))]) (ws' := [(u0, .inr (9, [.ref u1, .ref u2, .ref u3, .ref u4, .ref u5, .ref u6, .int (nI kn), .ref u7, .int (bB ik), .ref u8, .int (nI ty), .ref u9, .int (nI ta), .int (bB iw), .ref u10, .ref u11])), (u5, .inl (tyI D, 208, .inl M)), (u6, .inl (tyI D, 832, .inl Bf))]) rfl rfl rfl ?_
    refine g_if_neB (tgt := 69) O dX9_set_63 (by decide) (fun c_21 => ?_) (fun c_21 => absurd c_21 (by intro h; have h2 := inI_t (Int32.not_lt.mp hv1) hv2; exact absurd (h2.symm.trans h) (by decide)))
    refine g_aload_n O dX9_set_69 0 rfl rfl ?_
    refine g_get O hiX9_set_X9 0 rfl rfl 4 (by decide) (by decide +kernel) rfl dX9_set_70 ?_
    refine g_sipush (x := (nI 144)) O dX9_set_73 (by decide +kernel) ?_
    refine g_iload_n O dX9_set_76 1 rfl rfl ?_
    refine g_iaddN O dX9_set_77 ?_
    refine g_ialdN O 1 rfl (by omega) (by omega) dX9_set_78 ?_
    refine g_eq (st' := [.int (sv_se s 1)]) (by rw [RM_se hM (show 1 < 4 by omega)]) rfl rfl ?_
    refine g_istore (L' := [(0, .ref u0), (1, .int (nI 1)), (2, .int x), (3, .int (nI 1)), (4, .int (nI 150)), (5, .int (sv_se s 1))]) O dX9_set_79 (by decide) [1, 2, 3, 4, 5, 0] rfl ?_
    refine g_iload O dX9_set_81 5 rfl ?_
    refine g_iload_n O dX9_set_83 2 rfl rfl ?_
    refine g_icmp_ne (tgt := 90) O dX9_set_84 (by decide) (fun c_22 => ?_) (fun c_22 => absurd c_22 (fun h2 => hb h2.symm))
    refine g_aload_n O dX9_set_90 0 rfl rfl ?_
    refine g_callV (As := []) (wr := []) O (kX9_know l D z u0 u1 u2 u3 u4 u5 u6 u7 u8 u9 u10 u11 kn ik ty ta iw M Bf (by first | assumption | omega)) gX9_set_X9_know rfl rfl rfl 0 (by decide +kernel) (by decide) (by decide) (q0 := 0) rfl rfl rfl [0, 1, 2] [] rfl (by decide) rfl (by decide) (by decide) rfl rfl (Nat.le_of_ble_eq_true rfl) dX9_set_91 (fun r_23 w_24 hp => ?_)
    obtain ⟨rfl, rfl⟩ := hp
    refine g_eq (st' := []) (ws' := [(u0, .inr (9, [.ref u1, .ref u2, .ref u3, .ref u4, .ref u5, .ref u6, .int (nI (rhN kn)), .ref u7, .int (bB ik), .ref u8, .int (nI ty), .ref u9, .int (nI ta), .int (bB iw), .ref u10, .ref u11])), (u5, .inl (tyI D, 208, .inl M)), (u6, .inl (tyI D, 832, .inl (kwF Bf M kn)))]) rfl rfl rfl ?_
    refine g_aload_n O dX9_set_94 0 rfl rfl ?_
    refine g_get O hiX9_set_X9 0 rfl rfl 4 (by decide) (by decide +kernel) rfl dX9_set_95 ?_
    refine g_sipush (x := (nI 144)) O dX9_set_98 (by decide +kernel) ?_
    refine g_iload_n O dX9_set_101 1 rfl rfl ?_
    refine g_iaddN O dX9_set_102 ?_
    refine g_iload_n O dX9_set_103 2 rfl rfl ?_
    refine g_iastN (f' := (upd M (144 + 1) x)) (ws' := [(u0, .inr (9, [.ref u1, .ref u2, .ref u3, .ref u4, .ref u5, .ref u6, .int (nI (rhN kn)), .ref u7, .int (bB ik), .ref u8, .int (nI ty), .ref u9, .int (nI ta), .int (bB iw), .ref u10, .ref u11])), (u5, .inl (tyI D, 208, .inl (upd M (144 + 1) x))), (u6, .inl (tyI D, 832, .inl (kwF Bf M kn)))]) O 1 rfl (by omega) (by omega) dX9_set_104 rfl rfl ?_
    have hMf : RM (upd M (144 + 1) x) (s_se s (upd (sv_se s) 1 x)) := RM_wse hM (by omega)
    generalize (upd M (144 + 1) x) = M1 at hMf ⊢
    refine g_iload O dX9_set_105 5 rfl ?_
    exact E 107 _ (sv_se s 1) _ dX9_set_107 (⟨_, hMf, rfl, rfl⟩)
  ·
    refine g_iload_n O dX9_set_0 1 rfl rfl ?_
    refine g_iconst (x := (nI 1)) O dX9_set_1 (by decide +kernel) ?_
    refine g_icmp_neN (tgt := 9) O (by omega) (by omega) dX9_set_2 (by decide) (fun c_25 => ?_) (fun c_25 => absurd c_25 (by decide))
    refine g_iload_n O dX9_set_9 1 rfl rfl ?_
    refine g_iconst (x := (nI 3)) O dX9_set_10 (by decide +kernel) ?_
    refine g_icmp_neN (tgt := 19) O (by omega) (by omega) dX9_set_11 (by decide) (fun c_26 => ?_) (fun c_26 => absurd c_26 (by decide))
    refine g_iconst (x := (nI 0)) O dX9_set_19 (by decide +kernel) ?_
    refine g_istore_n (L' := [(0, .ref u0), (1, .int (nI 2)), (2, .int x), (3, .int (nI 0))]) O dX9_set_20 rfl (by decide) [1, 2, 3, 0] rfl ?_
    refine g_iload_n O dX9_set_21 1 rfl rfl ?_
    refine g_iconst (x := (nI 1)) O dX9_set_22 (by decide +kernel) ?_
    refine g_icmp_neN (tgt := 32) O (by omega) (by omega) dX9_set_23 (by decide) (fun c_27 => ?_) (fun c_27 => absurd c_27 (by decide))
    refine g_iload_n O dX9_set_32 1 rfl rfl ?_
    refine g_iconst (x := (nI 3)) O dX9_set_33 (by decide +kernel) ?_
    refine g_icmp_neN (tgt := 43) O (by omega) (by omega) dX9_set_34 (by decide) (fun c_28 => ?_) (fun c_28 => absurd c_28 (by decide))
    refine g_bipush (x := (nI 60)) O dX9_set_43 (by decide +kernel) ?_
    refine g_istore (L' := [(0, .ref u0), (1, .int (nI 2)), (2, .int x), (3, .int (nI 0)), (4, .int (nI 60))]) O dX9_set_45 (by decide) [1, 2, 3, 4, 0] rfl ?_
    refine g_iload_n O dX9_set_47 1 rfl rfl ?_
    refine g_iconst (x := (nI 0)) O dX9_set_48 (by decide +kernel) ?_
    refine g_iconst (x := (nI 3)) O dX9_set_49 (by decide +kernel) ?_
    refine g_callS (As := [.int (nI 2), .int (nI 0), .int (nI 3)]) (wr := [(u0, .inr (9, [.ref u1, .ref u2, .ref u3, .ref u4, .ref u5, .ref u6, .int (nI kn), .ref u7, .int (bB ik), .ref u8, .int (nI ty), .ref u9, .int (nI ta), .int (bB iw), .ref u10, .ref u11])), (u5, .inl (tyI D, 208, .inl M)), (u6, .inl (tyI D, 832, .inl Bf))]) O (kX9_in l D z (nI 2) (nI 0) (nI 3) ) gX9_set_X9_in rfl rfl rfl 3 (by decide +kernel) (by decide) (by decide) [] [0, 1, 2] rfl (by decide) rfl (by decide) (by decide) rfl rfl (Nat.le_of_ble_eq_true rfl) dX9_set_50 (fun r_29 w_30 hp => ?_)
    obtain ⟨rfl, rfl⟩ := hp
    refine g_eq (st' := [.int (bB (inI (nI 2) (nI 0) (nI 3)))]) (ws' := [(u0, .inr (9, [.ref u1, .ref u2, .ref u3, .ref u4, .ref u5, .ref u6, .int (nI kn), .ref u7, .int (bB ik), .ref u8, .int (nI ty), .ref u9, .int (nI ta), .int (bB iw), .ref u10, .ref u11])), (u5, .inl (tyI D, 208, .inl M)), (u6, .inl (tyI D, 832, .inl Bf))]) rfl rfl rfl ?_
    refine g_eq (st' := [.int (bB (rgB (nI 2) 4))]) (by rw [inI_r _ (by decide)]) rfl rfl ?_
    refine g_if_eqB (tgt := 66) O dX9_set_53 (by decide) (fun c_31 => absurd c_31 (by decide)) (fun c_31 => ?_)
    refine g_iload_n O dX9_set_56 2 rfl rfl ?_
    refine g_iload_n O dX9_set_57 3 rfl rfl ?_
    refine g_iload O dX9_set_58 4 rfl ?_
    refine g_callS (As := [.int x, .int (nI 0), .int (nI 60)]) (wr := [(u0, .inr (9, [.ref u1, .ref u2, .ref u3, .ref u4, .ref u5, .ref u6, .int (nI kn), .ref u7, .int (bB ik), .ref u8, .int (nI ty), .ref u9, .int (nI ta), .int (bB iw), .ref u10, .ref u11])), (u5, .inl (tyI D, 208, .inl M)), (u6, .inl (tyI D, 832, .inl Bf))]) O (kX9_in l D z x (nI 0) (nI 60) ) gX9_set_X9_in rfl rfl rfl 3 (by decide +kernel) (by decide) (by decide) [] [0, 1, 2] rfl (by decide) rfl (by decide) (by decide) rfl rfl (Nat.le_of_ble_eq_true rfl) dX9_set_60 (fun r_32 w_33 hp => ?_)
    obtain ⟨rfl, rfl⟩ := hp
    refine g_eq (st' := [.int (bB (inI x (nI 0) (nI 60)))]) (ws' := [(u0, .inr (9, [.ref u1, .ref u2, .ref u3, .ref u4, .ref u5, .ref u6, .int (nI kn), .ref u7, .int (bB ik), .ref u8, .int (nI ty), .ref u9, .int (nI ta), .int (bB iw), .ref u10, .ref u11])), (u5, .inl (tyI D, 208, .inl M)), (u6, .inl (tyI D, 832, .inl Bf))]) rfl rfl rfl ?_
    refine g_if_neB (tgt := 69) O dX9_set_63 (by decide) (fun c_34 => ?_) (fun c_34 => absurd c_34 (by intro h; have h2 := inI_t (Int32.not_lt.mp hv1) hv2; exact absurd (h2.symm.trans h) (by decide)))
    refine g_aload_n O dX9_set_69 0 rfl rfl ?_
    refine g_get O hiX9_set_X9 0 rfl rfl 4 (by decide) (by decide +kernel) rfl dX9_set_70 ?_
    refine g_sipush (x := (nI 144)) O dX9_set_73 (by decide +kernel) ?_
    refine g_iload_n O dX9_set_76 1 rfl rfl ?_
    refine g_iaddN O dX9_set_77 ?_
    refine g_ialdN O 1 rfl (by omega) (by omega) dX9_set_78 ?_
    refine g_eq (st' := [.int (sv_se s 2)]) (by rw [RM_se hM (show 2 < 4 by omega)]) rfl rfl ?_
    refine g_istore (L' := [(0, .ref u0), (1, .int (nI 2)), (2, .int x), (3, .int (nI 0)), (4, .int (nI 60)), (5, .int (sv_se s 2))]) O dX9_set_79 (by decide) [1, 2, 3, 4, 5, 0] rfl ?_
    refine g_iload O dX9_set_81 5 rfl ?_
    refine g_iload_n O dX9_set_83 2 rfl rfl ?_
    refine g_icmp_ne (tgt := 90) O dX9_set_84 (by decide) (fun c_35 => ?_) (fun c_35 => absurd c_35 (fun h2 => hb h2.symm))
    refine g_aload_n O dX9_set_90 0 rfl rfl ?_
    refine g_callV (As := []) (wr := []) O (kX9_know l D z u0 u1 u2 u3 u4 u5 u6 u7 u8 u9 u10 u11 kn ik ty ta iw M Bf (by first | assumption | omega)) gX9_set_X9_know rfl rfl rfl 0 (by decide +kernel) (by decide) (by decide) (q0 := 0) rfl rfl rfl [0, 1, 2] [] rfl (by decide) rfl (by decide) (by decide) rfl rfl (Nat.le_of_ble_eq_true rfl) dX9_set_91 (fun r_36 w_37 hp => ?_)
    obtain ⟨rfl, rfl⟩ := hp
    refine g_eq (st' := []) (ws' := [(u0, .inr (9, [.ref u1, .ref u2, .ref u3, .ref u4, .ref u5, .ref u6, .int (nI (rhN kn)), .ref u7, .int (bB ik), .ref u8, .int (nI ty), .ref u9, .int (nI ta), .int (bB iw), .ref u10, .ref u11])), (u5, .inl (tyI D, 208, .inl M)), (u6, .inl (tyI D, 832, .inl (kwF Bf M kn)))]) rfl rfl rfl ?_
    refine g_aload_n O dX9_set_94 0 rfl rfl ?_
    refine g_get O hiX9_set_X9 0 rfl rfl 4 (by decide) (by decide +kernel) rfl dX9_set_95 ?_
    refine g_sipush (x := (nI 144)) O dX9_set_98 (by decide +kernel) ?_
    refine g_iload_n O dX9_set_101 1 rfl rfl ?_
    refine g_iaddN O dX9_set_102 ?_
    refine g_iload_n O dX9_set_103 2 rfl rfl ?_
    refine g_iastN (f' := (upd M (144 + 2) x)) (ws' := [(u0, .inr (9, [.ref u1, .ref u2, .ref u3, .ref u4, .ref u5, .ref u6, .int (nI (rhN kn)), .ref u7, .int (bB ik), .ref u8, .int (nI ty), .ref u9, .int (nI ta), .int (bB iw), .ref u10, .ref u11])), (u5, .inl (tyI D, 208, .inl (upd M (144 + 2) x))), (u6, .inl (tyI D, 832, .inl (kwF Bf M kn)))]) O 1 rfl (by omega) (by omega) dX9_set_104 rfl rfl ?_
    have hMf : RM (upd M (144 + 2) x) (s_se s (upd (sv_se s) 2 x)) := RM_wse hM (by omega)
    generalize (upd M (144 + 2) x) = M1 at hMf ⊢
    refine g_iload O dX9_set_105 5 rfl ?_
    exact E 107 _ (sv_se s 2) _ dX9_set_107 (⟨_, hMf, rfl, rfl⟩)
  ·
    refine g_iload_n O dX9_set_0 1 rfl rfl ?_
    refine g_iconst (x := (nI 1)) O dX9_set_1 (by decide +kernel) ?_
    refine g_icmp_neN (tgt := 9) O (by omega) (by omega) dX9_set_2 (by decide) (fun c_38 => ?_) (fun c_38 => absurd c_38 (by decide))
    refine g_iload_n O dX9_set_9 1 rfl rfl ?_
    refine g_iconst (x := (nI 3)) O dX9_set_10 (by decide +kernel) ?_
    refine g_icmp_neN (tgt := 19) O (by omega) (by omega) dX9_set_11 (by decide) (fun c_39 => absurd c_39 (by decide)) (fun c_39 => ?_)
    refine g_bipush (x := (nI 50)) O dX9_set_14 (by decide +kernel) ?_
    refine g_goto (tgt := 20) O dX9_set_16 (by decide) ?_
    refine g_istore_n (L' := [(0, .ref u0), (1, .int (nI 3)), (2, .int x), (3, .int (nI 50))]) O dX9_set_20 rfl (by decide) [1, 2, 3, 0] rfl ?_
    refine g_iload_n O dX9_set_21 1 rfl rfl ?_
    refine g_iconst (x := (nI 1)) O dX9_set_22 (by decide +kernel) ?_
    refine g_icmp_neN (tgt := 32) O (by omega) (by omega) dX9_set_23 (by decide) (fun c_40 => ?_) (fun c_40 => absurd c_40 (by decide))
    refine g_iload_n O dX9_set_32 1 rfl rfl ?_
    refine g_iconst (x := (nI 3)) O dX9_set_33 (by decide +kernel) ?_
    refine g_icmp_neN (tgt := 43) O (by omega) (by omega) dX9_set_34 (by decide) (fun c_41 => absurd c_41 (by decide)) (fun c_41 => ?_)
    refine g_sipush (x := (nI 201)) O dX9_set_37 (by decide +kernel) ?_
    refine g_goto (tgt := 45) O dX9_set_40 (by decide) ?_
    refine g_istore (L' := [(0, .ref u0), (1, .int (nI 3)), (2, .int x), (3, .int (nI 50)), (4, .int (nI 201))]) O dX9_set_45 (by decide) [1, 2, 3, 4, 0] rfl ?_
    refine g_iload_n O dX9_set_47 1 rfl rfl ?_
    refine g_iconst (x := (nI 0)) O dX9_set_48 (by decide +kernel) ?_
    refine g_iconst (x := (nI 3)) O dX9_set_49 (by decide +kernel) ?_
    refine g_callS (As := [.int (nI 3), .int (nI 0), .int (nI 3)]) (wr := [(u0, .inr (9, [.ref u1, .ref u2, .ref u3, .ref u4, .ref u5, .ref u6, .int (nI kn), .ref u7, .int (bB ik), .ref u8, .int (nI ty), .ref u9, .int (nI ta), .int (bB iw), .ref u10, .ref u11])), (u5, .inl (tyI D, 208, .inl M)), (u6, .inl (tyI D, 832, .inl Bf))]) O (kX9_in l D z (nI 3) (nI 0) (nI 3) ) gX9_set_X9_in rfl rfl rfl 3 (by decide +kernel) (by decide) (by decide) [] [0, 1, 2] rfl (by decide) rfl (by decide) (by decide) rfl rfl (Nat.le_of_ble_eq_true rfl) dX9_set_50 (fun r_42 w_43 hp => ?_)
    obtain ⟨rfl, rfl⟩ := hp
    refine g_eq (st' := [.int (bB (inI (nI 3) (nI 0) (nI 3)))]) (ws' := [(u0, .inr (9, [.ref u1, .ref u2, .ref u3, .ref u4, .ref u5, .ref u6, .int (nI kn), .ref u7, .int (bB ik), .ref u8, .int (nI ty), .ref u9, .int (nI ta), .int (bB iw), .ref u10, .ref u11])), (u5, .inl (tyI D, 208, .inl M)), (u6, .inl (tyI D, 832, .inl Bf))]) rfl rfl rfl ?_
    refine g_eq (st' := [.int (bB (rgB (nI 3) 4))]) (by rw [inI_r _ (by decide)]) rfl rfl ?_
    refine g_if_eqB (tgt := 66) O dX9_set_53 (by decide) (fun c_44 => absurd c_44 (by decide)) (fun c_44 => ?_)
    refine g_iload_n O dX9_set_56 2 rfl rfl ?_
    refine g_iload_n O dX9_set_57 3 rfl rfl ?_
    refine g_iload O dX9_set_58 4 rfl ?_
    refine g_callS (As := [.int x, .int (nI 50), .int (nI 201)]) (wr := [(u0, .inr (9, [.ref u1, .ref u2, .ref u3, .ref u4, .ref u5, .ref u6, .int (nI kn), .ref u7, .int (bB ik), .ref u8, .int (nI ty), .ref u9, .int (nI ta), .int (bB iw), .ref u10, .ref u11])), (u5, .inl (tyI D, 208, .inl M)), (u6, .inl (tyI D, 832, .inl Bf))]) O (kX9_in l D z x (nI 50) (nI 201) ) gX9_set_X9_in rfl rfl rfl 3 (by decide +kernel) (by decide) (by decide) [] [0, 1, 2] rfl (by decide) rfl (by decide) (by decide) rfl rfl (Nat.le_of_ble_eq_true rfl) dX9_set_60 (fun r_45 w_46 hp => ?_)
    obtain ⟨rfl, rfl⟩ := hp
    refine g_eq (st' := [.int (bB (inI x (nI 50) (nI 201)))]) (ws' := [(u0, .inr (9, [.ref u1, .ref u2, .ref u3, .ref u4, .ref u5, .ref u6, .int (nI kn), .ref u7, .int (bB ik), .ref u8, .int (nI ty), .ref u9, .int (nI ta), .int (bB iw), .ref u10, .ref u11])), (u5, .inl (tyI D, 208, .inl M)), (u6, .inl (tyI D, 832, .inl Bf))]) rfl rfl rfl ?_
    refine g_if_neB (tgt := 69) O dX9_set_63 (by decide) (fun c_47 => ?_) (fun c_47 => absurd c_47 (by intro h; have h2 := inI_t (Int32.not_lt.mp hv1) hv2; exact absurd (h2.symm.trans h) (by decide)))
    refine g_aload_n O dX9_set_69 0 rfl rfl ?_
    refine g_get O hiX9_set_X9 0 rfl rfl 4 (by decide) (by decide +kernel) rfl dX9_set_70 ?_
    refine g_sipush (x := (nI 144)) O dX9_set_73 (by decide +kernel) ?_
    refine g_iload_n O dX9_set_76 1 rfl rfl ?_
    refine g_iaddN O dX9_set_77 ?_
    refine g_ialdN O 1 rfl (by omega) (by omega) dX9_set_78 ?_
    refine g_eq (st' := [.int (sv_se s 3)]) (by rw [RM_se hM (show 3 < 4 by omega)]) rfl rfl ?_
    refine g_istore (L' := [(0, .ref u0), (1, .int (nI 3)), (2, .int x), (3, .int (nI 50)), (4, .int (nI 201)), (5, .int (sv_se s 3))]) O dX9_set_79 (by decide) [1, 2, 3, 4, 5, 0] rfl ?_
    refine g_iload O dX9_set_81 5 rfl ?_
    refine g_iload_n O dX9_set_83 2 rfl rfl ?_
    refine g_icmp_ne (tgt := 90) O dX9_set_84 (by decide) (fun c_48 => ?_) (fun c_48 => absurd c_48 (fun h2 => hb h2.symm))
    refine g_aload_n O dX9_set_90 0 rfl rfl ?_
    refine g_callV (As := []) (wr := []) O (kX9_know l D z u0 u1 u2 u3 u4 u5 u6 u7 u8 u9 u10 u11 kn ik ty ta iw M Bf (by first | assumption | omega)) gX9_set_X9_know rfl rfl rfl 0 (by decide +kernel) (by decide) (by decide) (q0 := 0) rfl rfl rfl [0, 1, 2] [] rfl (by decide) rfl (by decide) (by decide) rfl rfl (Nat.le_of_ble_eq_true rfl) dX9_set_91 (fun r_49 w_50 hp => ?_)
    obtain ⟨rfl, rfl⟩ := hp
    refine g_eq (st' := []) (ws' := [(u0, .inr (9, [.ref u1, .ref u2, .ref u3, .ref u4, .ref u5, .ref u6, .int (nI (rhN kn)), .ref u7, .int (bB ik), .ref u8, .int (nI ty), .ref u9, .int (nI ta), .int (bB iw), .ref u10, .ref u11])), (u5, .inl (tyI D, 208, .inl M)), (u6, .inl (tyI D, 832, .inl (kwF Bf M kn)))]) rfl rfl rfl ?_
    refine g_aload_n O dX9_set_94 0 rfl rfl ?_
    refine g_get O hiX9_set_X9 0 rfl rfl 4 (by decide) (by decide +kernel) rfl dX9_set_95 ?_
    refine g_sipush (x := (nI 144)) O dX9_set_98 (by decide +kernel) ?_
    refine g_iload_n O dX9_set_101 1 rfl rfl ?_
    refine g_iaddN O dX9_set_102 ?_
    refine g_iload_n O dX9_set_103 2 rfl rfl ?_
    refine g_iastN (f' := (upd M (144 + 3) x)) (ws' := [(u0, .inr (9, [.ref u1, .ref u2, .ref u3, .ref u4, .ref u5, .ref u6, .int (nI (rhN kn)), .ref u7, .int (bB ik), .ref u8, .int (nI ty), .ref u9, .int (nI ta), .int (bB iw), .ref u10, .ref u11])), (u5, .inl (tyI D, 208, .inl (upd M (144 + 3) x))), (u6, .inl (tyI D, 832, .inl (kwF Bf M kn)))]) O 1 rfl (by omega) (by omega) dX9_set_104 rfl rfl ?_
    have hMf : RM (upd M (144 + 3) x) (s_se s (upd (sv_se s) 3 x)) := RM_wse hM (by omega)
    generalize (upd M (144 + 3) x) = M1 at hMf ⊢
    refine g_iload O dX9_set_105 5 rfl ?_
    exact E 107 _ (sv_se s 3) _ dX9_set_107 (⟨_, hMf, rfl, rfl⟩)

theorem hiX9_waits_X9 : ∀ w ∈ wsX90, w ∈ wsX9_waits := by intro w h; simp only [wsX9_waits, List.mem_append, List.mem_cons, h, or_true, true_or]
set_option maxHeartbeats 2000000 in
set_option maxRecDepth 100000 in
theorem kX9_waits (l : Launch) (D : va_G) (z : Nat × Nat × Nat) (u0 : Nat) (u1 : Nat) (u2 : Nat) (u3 : Nat) (u4 : Nat) (u5 : Nat) (u6 : Nat) (u7 : Nat) (u8 : Nat) (u9 : Nat) (u10 : Nat) (u11 : Nat) (kn : Nat) (ik : Bool) (ty : Nat) (ta : Nat) (iw : Bool) (M : Nat → Int32) (s : SV) (x : Nat) (y : Nat) (k : Nat) (hM : RM M s) (hb : sv_ps s < 16) (hnc : sv_nc s ≤ 4) : CM l yX9_waits wsX9_waits ({ frames := 0, cells := 0, slots := 0, locals := 0 } : Room) D z [.ref u0, .int (nI x), .int (nI y), .int (nI k)] [(u0, .inr (9, [.ref u1, .ref u2, .ref u3, .ref u4, .ref u5, .ref u6, .int (nI kn), .ref u7, .int (bB ik), .ref u8, .int (nI ty), .ref u9, .int (nI ta), .int (bB iw), .ref u10, .ref u11])), (u5, .inl (tyI D, 208, .inl M))] (fun r_ w_ => ∃ (M9 : Nat → Int32), (RM M9 (mkS (sv_g s) (sv_cc s) (sv_cr s) (sv_nc s) (sv_se s) (upf (sv_fs s) (sv_ps s) x) (upf (sv_fa s) (sv_ps s) y) (upf (sv_fk s) (sv_ps s) k) (sv_ps s + 1) (sv_la s) (sv_st s) (sv_sw s) (sv_fl s) (sv_sk s) (sv_mu s))) ∧ r_ = some (.int (nI (sv_ps s + 1))) ∧ w_ = [(u0, .inr (9, [.ref u1, .ref u2, .ref u3, .ref u4, .ref u5, .ref u6, .int (nI kn), .ref u7, .int (bB ik), .ref u8, .int (nI ty), .ref u9, .int (nI ta), .int (bB iw), .ref u10, .ref u11])), (u5, .inl (tyI D, 208, .inl M9))]) 0 0 := by
  refine CM_int (own := RX9) (cc := cX9_waits) (maxL := 5) (L0 := [(0, .ref u0), (1, .int (nI x)), (2, .int (nI y)), (3, .int (nI k))]) (by decide) rfl rfl (Nat.le_of_ble_eq_true rfl) rfl (fun X O E => ?_)
  refine g_sipush (x := (nI 160)) O dX9_waits_0 (by decide +kernel) ?_
  refine g_iconst (x := (nI 3)) O dX9_waits_3 (by decide +kernel) ?_
  refine g_aload_n O dX9_waits_4 0 rfl rfl ?_
  refine g_get O hiX9_waits_X9 0 rfl rfl 4 (by decide) (by decide +kernel) rfl dX9_waits_5 ?_
  refine g_sipush (x := (nI 159)) O dX9_waits_8 (by decide +kernel) ?_
  refine g_ialdN O 1 rfl (by omega) (by omega) dX9_waits_11 ?_
  refine g_eq (st' := [.int (nI (sv_ps s)), .int (nI 3), .int (nI 160)]) (by rw [RM_ps hM]) rfl rfl ?_
  refine g_imulN O dX9_waits_12 ?_
  refine g_iaddN O dX9_waits_13 ?_
  refine g_istore (L' := [(0, .ref u0), (1, .int (nI x)), (2, .int (nI y)), (3, .int (nI k)), (4, .int (nI (160 + (3 * (sv_ps s)))))]) O dX9_waits_14 (by decide) [1, 2, 3, 4, 0] rfl ?_
  refine g_aload_n O dX9_waits_16 0 rfl rfl ?_
  refine g_get O hiX9_waits_X9 0 rfl rfl 4 (by decide) (by decide +kernel) rfl dX9_waits_17 ?_
  refine g_iload O dX9_waits_20 4 rfl ?_
  refine g_iload_n O dX9_waits_22 1 rfl rfl ?_
  refine g_iastN (f' := (upd M (160 + (3 * (sv_ps s))) (nI x))) (ws' := [(u0, .inr (9, [.ref u1, .ref u2, .ref u3, .ref u4, .ref u5, .ref u6, .int (nI kn), .ref u7, .int (bB ik), .ref u8, .int (nI ty), .ref u9, .int (nI ta), .int (bB iw), .ref u10, .ref u11])), (u5, .inl (tyI D, 208, .inl (upd M (160 + (3 * (sv_ps s))) (nI x))))]) O 1 rfl (by omega) (by omega) dX9_waits_23 rfl rfl ?_
  have hM1 : RM (upd M (160 + (3 * (sv_ps s))) (nI x)) s := RM_stB hM (by omega) hnc
  have hv1 : (upd M (160 + (3 * (sv_ps s))) (nI x)) (160 + 3 * sv_ps s) = nI x := pk_us
  generalize (upd M (160 + (3 * (sv_ps s))) (nI x)) = M1 at hM1 hv1 ⊢
  refine g_aload_n O dX9_waits_24 0 rfl rfl ?_
  refine g_get O hiX9_waits_X9 0 rfl rfl 4 (by decide) (by decide +kernel) rfl dX9_waits_25 ?_
  refine g_iload O dX9_waits_28 4 rfl ?_
  refine g_iconst (x := (nI 1)) O dX9_waits_30 (by decide +kernel) ?_
  refine g_iaddN O dX9_waits_31 ?_
  refine g_iload_n O dX9_waits_32 2 rfl rfl ?_
  refine g_iastN (f' := (upd M1 ((160 + (3 * (sv_ps s))) + 1) (nI y))) (ws' := [(u0, .inr (9, [.ref u1, .ref u2, .ref u3, .ref u4, .ref u5, .ref u6, .int (nI kn), .ref u7, .int (bB ik), .ref u8, .int (nI ty), .ref u9, .int (nI ta), .int (bB iw), .ref u10, .ref u11])), (u5, .inl (tyI D, 208, .inl (upd M1 ((160 + (3 * (sv_ps s))) + 1) (nI y))))]) O 1 rfl (by omega) (by omega) dX9_waits_33 rfl rfl ?_
  have hM2 : RM (upd M1 ((160 + (3 * (sv_ps s))) + 1) (nI y)) s := RM_stB hM1 (by omega) hnc
  have hv2 : (upd M1 ((160 + (3 * (sv_ps s))) + 1) (nI y)) (160 + 3 * sv_ps s + 1) = nI y := pk_us
  have hv1b : (upd M1 ((160 + (3 * (sv_ps s))) + 1) (nI y)) (160 + 3 * sv_ps s) = nI x := by rw [pk_un (by omega)]; exact hv1
  generalize (upd M1 ((160 + (3 * (sv_ps s))) + 1) (nI y)) = M2 at hM2 hv2 hv1b ⊢
  refine g_aload_n O dX9_waits_34 0 rfl rfl ?_
  refine g_get O hiX9_waits_X9 0 rfl rfl 4 (by decide) (by decide +kernel) rfl dX9_waits_35 ?_
  refine g_iload O dX9_waits_38 4 rfl ?_
  refine g_iconst (x := (nI 2)) O dX9_waits_40 (by decide +kernel) ?_
  refine g_iaddN O dX9_waits_41 ?_
  refine g_iload_n O dX9_waits_42 3 rfl rfl ?_
  refine g_iastN (f' := (upd M2 ((160 + (3 * (sv_ps s))) + 2) (nI k))) (ws' := [(u0, .inr (9, [.ref u1, .ref u2, .ref u3, .ref u4, .ref u5, .ref u6, .int (nI kn), .ref u7, .int (bB ik), .ref u8, .int (nI ty), .ref u9, .int (nI ta), .int (bB iw), .ref u10, .ref u11])), (u5, .inl (tyI D, 208, .inl (upd M2 ((160 + (3 * (sv_ps s))) + 2) (nI k))))]) O 1 rfl (by omega) (by omega) dX9_waits_43 rfl rfl ?_
  have hM3 : RM (upd M2 ((160 + (3 * (sv_ps s))) + 2) (nI k)) s := RM_stB hM2 (by omega) hnc
  have hv3 : (upd M2 ((160 + (3 * (sv_ps s))) + 2) (nI k)) (160 + 3 * sv_ps s + 2) = nI k := pk_us
  have hv2c : (upd M2 ((160 + (3 * (sv_ps s))) + 2) (nI k)) (160 + 3 * sv_ps s + 1) = nI y := by rw [pk_un (by omega)]; exact hv2
  have hv1c : (upd M2 ((160 + (3 * (sv_ps s))) + 2) (nI k)) (160 + 3 * sv_ps s) = nI x := by rw [pk_un (by omega)]; exact hv1b
  generalize (upd M2 ((160 + (3 * (sv_ps s))) + 2) (nI k)) = M3 at hM3 hv3 hv2c hv1c ⊢
  refine g_aload_n O dX9_waits_44 0 rfl rfl ?_
  refine g_get O hiX9_waits_X9 0 rfl rfl 4 (by decide) (by decide +kernel) rfl dX9_waits_45 ?_
  refine g_sipush (x := (nI 159)) O dX9_waits_48 (by decide +kernel) ?_
  refine g_dup2 O dX9_waits_51 rfl rfl ?_
  refine g_ialdN O 1 rfl (by omega) (by omega) dX9_waits_52 ?_
  refine g_eq (st' := [.int (nI (sv_ps s)), .int (nI 159), .ref u5]) (by rw [RM_ps hM3]) rfl rfl ?_
  refine g_iconst (x := (nI 1)) O dX9_waits_53 (by decide +kernel) ?_
  refine g_iaddN O dX9_waits_54 ?_
  refine g_iastN (f' := (upd M3 159 (nI ((sv_ps s) + 1)))) (ws' := [(u0, .inr (9, [.ref u1, .ref u2, .ref u3, .ref u4, .ref u5, .ref u6, .int (nI kn), .ref u7, .int (bB ik), .ref u8, .int (nI ty), .ref u9, .int (nI ta), .int (bB iw), .ref u10, .ref u11])), (u5, .inl (tyI D, 208, .inl (upd M3 159 (nI ((sv_ps s) + 1)))))]) O 1 rfl (by omega) (by omega) dX9_waits_55 rfl rfl ?_
  have hMf : RM (upd M3 159 (nI ((sv_ps s) + 1))) (s_pc s (upf (sv_fs s) (sv_ps s) x) (upf (sv_fa s) (sv_ps s) y) (upf (sv_fk s) (sv_ps s) k) (sv_ps s + 1)) := RM_wps hM3 hnc hv1c hv2c hv3
  generalize (upd M3 159 (nI ((sv_ps s) + 1))) = M4 at hMf ⊢
  refine g_aload_n O dX9_waits_56 0 rfl rfl ?_
  refine g_get O hiX9_waits_X9 0 rfl rfl 4 (by decide) (by decide +kernel) rfl dX9_waits_57 ?_
  refine g_sipush (x := (nI 159)) O dX9_waits_60 (by decide +kernel) ?_
  refine g_ialdN O 1 rfl (by omega) (by omega) dX9_waits_63 ?_
  refine g_eq (st' := [.int (nI (sv_ps (s_pc s (upf (sv_fs s) (sv_ps s) x) (upf (sv_fa s) (sv_ps s) y) (upf (sv_fk s) (sv_ps s) k) (sv_ps s + 1))))]) (by rw [RM_ps hMf]) rfl rfl ?_
  refine g_eq (st' := [.int (nI (sv_ps s + 1))]) rfl rfl rfl ?_
  exact E 64 _ (nI (sv_ps s + 1)) _ dX9_waits_64 (⟨_, hMf, rfl, rfl⟩)

set_option maxHeartbeats 2000000 in
set_option maxRecDepth 100000 in
theorem kX9_bow_b1 (l : Launch) (D : va_G) (z : Nat × Nat × Nat) (u0 : Nat) (u1 : Nat) (u2 : Nat) (u3 : Nat) (u4 : Nat) (u5 : Nat) (u6 : Nat) (u7 : Nat) (u8 : Nat) (u9 : Nat) (u10 : Nat) (u11 : Nat) (kn : Nat) (ik : Bool) (ty : Nat) (ta : Nat) (iw : Bool) (x : Int32) (y : Int32) (k : Int32) (hb : (rgB x 4 && rgB y 12) = false) : CM l yX9_bow wsX9_bow ({ frames := 2, cells := 0, slots := 0, locals := 43 } : Room) D z [.ref u0, .int x, .int y, .int k] [(u0, .inr (9, [.ref u1, .ref u2, .ref u3, .ref u4, .ref u5, .ref u6, .int (nI kn), .ref u7, .int (bB ik), .ref u8, .int (nI ty), .ref u9, .int (nI ta), .int (bB iw), .ref u10, .ref u11]))] (fun r_ w_ => r_ = some (.int (-1)) ∧ w_ = [(u0, .inr (9, [.ref u1, .ref u2, .ref u3, .ref u4, .ref u5, .ref u6, .int (nI kn), .ref u7, .int (bB ik), .ref u8, .int (nI ty), .ref u9, .int (nI ta), .int (bB iw), .ref u10, .ref u11]))]) 0 0 := by
  refine CM_int (own := RX9) (cc := cX9_bow) (maxL := 4) (L0 := [(0, .ref u0), (1, .int x), (2, .int y), (3, .int k)]) (by decide) rfl rfl (Nat.le_of_ble_eq_true rfl) rfl (fun X O E => ?_)
  refine g_iload_n O dX9_bow_0 1 rfl rfl ?_
  refine g_iload_n O dX9_bow_1 2 rfl rfl ?_
  refine g_callS (As := [.int x, .int y]) (wr := [(u0, .inr (9, [.ref u1, .ref u2, .ref u3, .ref u4, .ref u5, .ref u6, .int (nI kn), .ref u7, .int (bB ik), .ref u8, .int (nI ty), .ref u9, .int (nI ta), .int (bB iw), .ref u10, .ref u11]))]) O (kX9_isBow l D z x y ) gX9_bow_X9_isBow rfl rfl rfl 2 (by decide +kernel) (by decide) (by decide) [] [0] rfl (by decide) rfl (by decide) (by decide) rfl rfl (Nat.le_of_ble_eq_true rfl) dX9_bow_2 (fun r_1 w_2 hp => ?_)
  obtain ⟨rfl, rfl⟩ := hp
  refine g_eq (st' := [.int (bB (rgB x 4 && rgB y 12))]) (ws' := [(u0, .inr (9, [.ref u1, .ref u2, .ref u3, .ref u4, .ref u5, .ref u6, .int (nI kn), .ref u7, .int (bB ik), .ref u8, .int (nI ty), .ref u9, .int (nI ta), .int (bB iw), .ref u10, .ref u11]))]) rfl rfl rfl ?_
  refine g_if_neB (tgt := 10) O dX9_bow_5 (by decide) (fun c_3 => absurd c_3 (by rw [hb]; decide)) (fun c_3 => ?_)
  refine g_iconst (x := (-1)) O dX9_bow_8 (by decide +kernel) ?_
  exact E 9 _ (-1) _ dX9_bow_9 ⟨rfl, rfl⟩

set_option maxHeartbeats 2000000 in
set_option maxRecDepth 100000 in
theorem kX9_bow_b2 (l : Launch) (D : va_G) (z : Nat × Nat × Nat) (u0 : Nat) (u1 : Nat) (u2 : Nat) (u3 : Nat) (u4 : Nat) (u5 : Nat) (u6 : Nat) (u7 : Nat) (u8 : Nat) (u9 : Nat) (u10 : Nat) (u11 : Nat) (kn : Nat) (ik : Bool) (ty : Nat) (ta : Nat) (iw : Bool) (x : Nat) (y : Nat) (k : Int32) (hx : x < 4) (hy : y < 12) (hb : k < nI 1 ∨ nI 20 < k) : CM l yX9_bow wsX9_bow ({ frames := 2, cells := 0, slots := 0, locals := 43 } : Room) D z [.ref u0, .int (nI x), .int (nI y), .int k] [(u0, .inr (9, [.ref u1, .ref u2, .ref u3, .ref u4, .ref u5, .ref u6, .int (nI kn), .ref u7, .int (bB ik), .ref u8, .int (nI ty), .ref u9, .int (nI ta), .int (bB iw), .ref u10, .ref u11]))] (fun r_ w_ => r_ = some (.int (-2)) ∧ w_ = [(u0, .inr (9, [.ref u1, .ref u2, .ref u3, .ref u4, .ref u5, .ref u6, .int (nI kn), .ref u7, .int (bB ik), .ref u8, .int (nI ty), .ref u9, .int (nI ta), .int (bB iw), .ref u10, .ref u11]))]) 0 0 := by
  refine CM_int (own := RX9) (cc := cX9_bow) (maxL := 4) (L0 := [(0, .ref u0), (1, .int (nI x)), (2, .int (nI y)), (3, .int k)]) (by decide) rfl rfl (Nat.le_of_ble_eq_true rfl) rfl (fun X O E => ?_)
  refine g_iload_n O dX9_bow_0 1 rfl rfl ?_
  refine g_iload_n O dX9_bow_1 2 rfl rfl ?_
  refine g_callS (As := [.int (nI x), .int (nI y)]) (wr := [(u0, .inr (9, [.ref u1, .ref u2, .ref u3, .ref u4, .ref u5, .ref u6, .int (nI kn), .ref u7, .int (bB ik), .ref u8, .int (nI ty), .ref u9, .int (nI ta), .int (bB iw), .ref u10, .ref u11]))]) O (kX9_isBow l D z (nI x) (nI y) ) gX9_bow_X9_isBow rfl rfl rfl 2 (by decide +kernel) (by decide) (by decide) [] [0] rfl (by decide) rfl (by decide) (by decide) rfl rfl (Nat.le_of_ble_eq_true rfl) dX9_bow_2 (fun r_1 w_2 hp => ?_)
  obtain ⟨rfl, rfl⟩ := hp
  refine g_eq (st' := [.int (bB (rgB (nI x) 4 && rgB (nI y) 12))]) (ws' := [(u0, .inr (9, [.ref u1, .ref u2, .ref u3, .ref u4, .ref u5, .ref u6, .int (nI kn), .ref u7, .int (bB ik), .ref u8, .int (nI ty), .ref u9, .int (nI ta), .int (bB iw), .ref u10, .ref u11]))]) rfl rfl rfl ?_
  refine g_if_neB (tgt := 10) O dX9_bow_5 (by decide) (fun c_3 => ?_) (fun c_3 => absurd c_3 (by rw [rgB_t hx (by decide), rgB_t hy (by decide)]; decide))
  refine g_iload_n O dX9_bow_10 3 rfl rfl ?_
  refine g_iconst (x := (nI 1)) O dX9_bow_11 (by decide +kernel) ?_
  refine g_bipush (x := (nI 20)) O dX9_bow_12 (by decide +kernel) ?_
  refine g_callS (As := [.int k, .int (nI 1), .int (nI 20)]) (wr := [(u0, .inr (9, [.ref u1, .ref u2, .ref u3, .ref u4, .ref u5, .ref u6, .int (nI kn), .ref u7, .int (bB ik), .ref u8, .int (nI ty), .ref u9, .int (nI ta), .int (bB iw), .ref u10, .ref u11]))]) O (kX9_in l D z k (nI 1) (nI 20) ) gX9_bow_X9_in rfl rfl rfl 3 (by decide +kernel) (by decide) (by decide) [] [0] rfl (by decide) rfl (by decide) (by decide) rfl rfl (Nat.le_of_ble_eq_true rfl) dX9_bow_14 (fun r_4 w_5 hp => ?_)
  obtain ⟨rfl, rfl⟩ := hp
  refine g_eq (st' := [.int (bB (inI k (nI 1) (nI 20)))]) (ws' := [(u0, .inr (9, [.ref u1, .ref u2, .ref u3, .ref u4, .ref u5, .ref u6, .int (nI kn), .ref u7, .int (bB ik), .ref u8, .int (nI ty), .ref u9, .int (nI ta), .int (bB iw), .ref u10, .ref u11]))]) rfl rfl rfl ?_
  refine g_if_neB (tgt := 23) O dX9_bow_17 (by decide) (fun c_6 => absurd c_6 (by rw [inI_f hb]; decide)) (fun c_6 => ?_)
  refine g_bipush (x := (-2)) O dX9_bow_20 (by decide +kernel) ?_
  exact E 22 _ (-2) _ dX9_bow_22 ⟨rfl, rfl⟩

theorem hiX9_bow_X9 : ∀ w ∈ wsX90, w ∈ wsX9_bow := by intro w h; simp only [wsX9_bow, List.mem_append, List.mem_cons, h, or_true, true_or]
set_option maxHeartbeats 2000000 in
set_option maxRecDepth 100000 in
theorem kX9_bow_b3 (l : Launch) (D : va_G) (z : Nat × Nat × Nat) (u0 : Nat) (u1 : Nat) (u2 : Nat) (u3 : Nat) (u4 : Nat) (u5 : Nat) (u6 : Nat) (u7 : Nat) (u8 : Nat) (u9 : Nat) (u10 : Nat) (u11 : Nat) (kn : Nat) (ik : Bool) (ty : Nat) (ta : Nat) (iw : Bool) (M : Nat → Int32) (s : SV) (x : Nat) (y : Nat) (k : Nat) (hx : x < 4) (hy : y < 12) (hk1 : 1 ≤ k) (hk2 : k ≤ 20) (hM : RM M s) (hb : sv_ps s = 16) : CM l yX9_bow wsX9_bow ({ frames := 2, cells := 0, slots := 0, locals := 43 } : Room) D z [.ref u0, .int (nI x), .int (nI y), .int (nI k)] [(u0, .inr (9, [.ref u1, .ref u2, .ref u3, .ref u4, .ref u5, .ref u6, .int (nI kn), .ref u7, .int (bB ik), .ref u8, .int (nI ty), .ref u9, .int (nI ta), .int (bB iw), .ref u10, .ref u11])), (u5, .inl (tyI D, 208, .inl M))] (fun r_ w_ => r_ = some (.int (-3)) ∧ w_ = [(u0, .inr (9, [.ref u1, .ref u2, .ref u3, .ref u4, .ref u5, .ref u6, .int (nI kn), .ref u7, .int (bB ik), .ref u8, .int (nI ty), .ref u9, .int (nI ta), .int (bB iw), .ref u10, .ref u11])), (u5, .inl (tyI D, 208, .inl M))]) 0 0 := by
  refine CM_int (own := RX9) (cc := cX9_bow) (maxL := 4) (L0 := [(0, .ref u0), (1, .int (nI x)), (2, .int (nI y)), (3, .int (nI k))]) (by decide) rfl rfl (Nat.le_of_ble_eq_true rfl) rfl (fun X O E => ?_)
  refine g_iload_n O dX9_bow_0 1 rfl rfl ?_
  refine g_iload_n O dX9_bow_1 2 rfl rfl ?_
  refine g_callS (As := [.int (nI x), .int (nI y)]) (wr := [(u0, .inr (9, [.ref u1, .ref u2, .ref u3, .ref u4, .ref u5, .ref u6, .int (nI kn), .ref u7, .int (bB ik), .ref u8, .int (nI ty), .ref u9, .int (nI ta), .int (bB iw), .ref u10, .ref u11])), (u5, .inl (tyI D, 208, .inl M))]) O (kX9_isBow l D z (nI x) (nI y) ) gX9_bow_X9_isBow rfl rfl rfl 2 (by decide +kernel) (by decide) (by decide) [] [0, 1] rfl (by decide) rfl (by decide) (by decide) rfl rfl (Nat.le_of_ble_eq_true rfl) dX9_bow_2 (fun r_1 w_2 hp => ?_)
  obtain ⟨rfl, rfl⟩ := hp
  refine g_eq (st' := [.int (bB (rgB (nI x) 4 && rgB (nI y) 12))]) (ws' := [(u0, .inr (9, [.ref u1, .ref u2, .ref u3, .ref u4, .ref u5, .ref u6, .int (nI kn), .ref u7, .int (bB ik), .ref u8, .int (nI ty), .ref u9, .int (nI ta), .int (bB iw), .ref u10, .ref u11])), (u5, .inl (tyI D, 208, .inl M))]) rfl rfl rfl ?_
  refine g_if_neB (tgt := 10) O dX9_bow_5 (by decide) (fun c_3 => ?_) (fun c_3 => absurd c_3 (by rw [rgB_t hx (by decide), rgB_t hy (by decide)]; decide))
  refine g_iload_n O dX9_bow_10 3 rfl rfl ?_
  refine g_iconst (x := (nI 1)) O dX9_bow_11 (by decide +kernel) ?_
  refine g_bipush (x := (nI 20)) O dX9_bow_12 (by decide +kernel) ?_
  refine g_callS (As := [.int (nI k), .int (nI 1), .int (nI 20)]) (wr := [(u0, .inr (9, [.ref u1, .ref u2, .ref u3, .ref u4, .ref u5, .ref u6, .int (nI kn), .ref u7, .int (bB ik), .ref u8, .int (nI ty), .ref u9, .int (nI ta), .int (bB iw), .ref u10, .ref u11])), (u5, .inl (tyI D, 208, .inl M))]) O (kX9_in l D z (nI k) (nI 1) (nI 20) ) gX9_bow_X9_in rfl rfl rfl 3 (by decide +kernel) (by decide) (by decide) [] [0, 1] rfl (by decide) rfl (by decide) (by decide) rfl rfl (Nat.le_of_ble_eq_true rfl) dX9_bow_14 (fun r_4 w_5 hp => ?_)
  obtain ⟨rfl, rfl⟩ := hp
  refine g_eq (st' := [.int (bB (inI (nI k) (nI 1) (nI 20)))]) (ws' := [(u0, .inr (9, [.ref u1, .ref u2, .ref u3, .ref u4, .ref u5, .ref u6, .int (nI kn), .ref u7, .int (bB ik), .ref u8, .int (nI ty), .ref u9, .int (nI ta), .int (bB iw), .ref u10, .ref u11])), (u5, .inl (tyI D, 208, .inl M))]) rfl rfl rfl ?_
  refine g_if_neB (tgt := 23) O dX9_bow_17 (by decide) (fun c_6 => ?_) (fun c_6 => absurd c_6 (by rw [inI_t (nI_le (a := 1) (by omega) (by omega)) (nI_le (b := 20) (by omega) (by omega))]; decide))
  refine g_aload_n O dX9_bow_23 0 rfl rfl ?_
  refine g_get O hiX9_bow_X9 0 rfl rfl 4 (by decide) (by decide +kernel) rfl dX9_bow_24 ?_
  refine g_sipush (x := (nI 159)) O dX9_bow_27 (by decide +kernel) ?_
  refine g_ialdN O 1 rfl (by omega) (by omega) dX9_bow_30 ?_
  refine g_eq (st' := [.int (nI (sv_ps s))]) (by rw [RM_ps hM]) rfl rfl ?_
  refine g_bipush (x := (nI 16)) O dX9_bow_31 (by decide +kernel) ?_
  refine g_icmp_neN (tgt := 39) O (by omega) (by omega) dX9_bow_33 (by decide) (fun c_7 => absurd c_7 (fun h => h hb)) (fun c_7 => ?_)
  refine g_bipush (x := (-3)) O dX9_bow_36 (by decide +kernel) ?_
  exact E 38 _ (-3) _ dX9_bow_38 ⟨rfl, rfl⟩
