set_option maxHeartbeats 2000000 in
set_option maxRecDepth 100000 in
theorem kX9_clamp_b3 (l : Launch) (D : va_G) (z : Nat × Nat × Nat) (u0 : Nat) (u1 : Nat) (u2 : Nat) (u3 : Nat) (u4 : Nat) (u5 : Nat) (u6 : Nat) (u7 : Nat) (u8 : Nat) (u9 : Nat) (u10 : Nat) (u11 : Nat) (kn : Nat) (ik : Bool) (ty : Nat) (ta : Nat) (iw : Bool) (M : Nat → Int32) (s : SV) (x : Nat) (y : Nat) (k : Nat) (hx : x < 12) (hy : y < 12) (hM : RM M s) (hnc : sv_nc s ≤ 4) (hcc : ∀ j, j < sv_nc s → sv_cc s j < 12 ∧ sv_cr s j < 12) (hb : sv_nc s < 4) (hd : (fdB (fun j => decide (12 * sv_cr s j + sv_cc s j = 12 * y + x)) (sv_nc s)) = some k) : CM l yX9_clamp wsX9_clamp ({ frames := 2, cells := 0, slots := 0, locals := 43 } : Room) D z [.ref u0, .int (nI x), .int (nI y)] [(u0, .inr (9, [.ref u1, .ref u2, .ref u3, .ref u4, .ref u5, .ref u6, .int (nI kn), .ref u7, .int (bB ik), .ref u8, .int (nI ty), .ref u9, .int (nI ta), .int (bB iw), .ref u10, .ref u11])), (u5, .inl (tyI D, 208, .inl M))] (fun r_ w_ => r_ = some (.int (-5)) ∧ w_ = [(u0, .inr (9, [.ref u1, .ref u2, .ref u3, .ref u4, .ref u5, .ref u6, .int (nI kn), .ref u7, .int (bB ik), .ref u8, .int (nI ty), .ref u9, .int (nI ta), .int (bB iw), .ref u10, .ref u11])), (u5, .inl (tyI D, 208, .inl M))]) 0 0 := by
  refine CM_int (own := RX9) (cc := cX9_clamp) (maxL := 3) (L0 := [(0, .ref u0), (1, .int (nI x)), (2, .int (nI y))]) (by decide) rfl rfl (Nat.le_of_ble_eq_true rfl) rfl (fun X O E => ?_)
  have hkl := (fdB_some.mp hd).1
  refine g_iload_n O dX9_clamp_0 1 rfl rfl ?_
  refine g_iload_n O dX9_clamp_1 2 rfl rfl ?_
  refine g_callS (As := [.int (nI x), .int (nI y)]) (wr := [(u0, .inr (9, [.ref u1, .ref u2, .ref u3, .ref u4, .ref u5, .ref u6, .int (nI kn), .ref u7, .int (bB ik), .ref u8, .int (nI ty), .ref u9, .int (nI ta), .int (bB iw), .ref u10, .ref u11])), (u5, .inl (tyI D, 208, .inl M))]) O (kX9_isOn l D z (nI x) (nI y) ) gX9_clamp_X9_isOn rfl rfl rfl 2 (by decide +kernel) (by decide) (by decide) [] [0, 1] rfl (by decide) rfl (by decide) (by decide) rfl rfl (Nat.le_of_ble_eq_true rfl) dX9_clamp_2 (fun r_1 w_2 hp => ?_)
  obtain ⟨rfl, rfl⟩ := hp
  refine g_eq (st' := [.int (bB (rgB (nI x) 12 && rgB (nI y) 12))]) (ws' := [(u0, .inr (9, [.ref u1, .ref u2, .ref u3, .ref u4, .ref u5, .ref u6, .int (nI kn), .ref u7, .int (bB ik), .ref u8, .int (nI ty), .ref u9, .int (nI ta), .int (bB iw), .ref u10, .ref u11])), (u5, .inl (tyI D, 208, .inl M))]) rfl rfl rfl ?_
  refine g_if_neB (tgt := 10) O dX9_clamp_5 (by decide) (fun c_3 => ?_) (fun c_3 => absurd c_3 (by rw [rgB_t hx (by decide), rgB_t hy (by decide)]; decide))
  refine g_aload_n O dX9_clamp_10 0 rfl rfl ?_
  refine g_get O hiX9_clamp_X9 0 rfl rfl 4 (by decide) (by decide +kernel) rfl dX9_clamp_11 ?_
  refine g_sipush (x := (nI 154)) O dX9_clamp_14 (by decide +kernel) ?_
  refine g_ialdN O 1 rfl (by omega) (by omega) dX9_clamp_17 ?_
  refine g_eq (st' := [.int (nI (sv_nc s))]) (by rw [RM_nc hM]) rfl rfl ?_
  refine g_iconst (x := (nI 4)) O dX9_clamp_18 (by decide +kernel) ?_
  refine g_icmp_neN (tgt := 25) O (by omega) (by omega) dX9_clamp_19 (by decide) (fun c_4 => ?_) (fun c_4 => absurd c_4 (by omega))
  refine g_aload_n O dX9_clamp_25 0 rfl rfl ?_
  refine g_bipush (x := (nI 12)) O dX9_clamp_26 (by decide +kernel) ?_
  refine g_iload_n O dX9_clamp_28 2 rfl rfl ?_
  refine g_imulN O dX9_clamp_29 ?_
  refine g_iload_n O dX9_clamp_30 1 rfl rfl ?_
  refine g_iaddN O dX9_clamp_31 ?_
  refine g_callV (As := [.int (nI ((12 * y) + x))]) (wr := []) O (kX9_clampOn l D z u0 u1 u2 u3 u4 u5 u6 u7 u8 u9 u10 u11 kn ik ty ta iw M s ((12 * y) + x) (by first | assumption | omega) (by first | assumption | omega) (by first | assumption | omega) (by first | assumption | omega)) gX9_clamp_X9_clampOn rfl rfl rfl 1 (by decide +kernel) (by decide) (by decide) (q0 := 0) rfl rfl rfl [0, 1] [] rfl (by decide) rfl (by decide) (by decide) rfl rfl (Nat.le_of_ble_eq_true rfl) dX9_clamp_32 (fun r_5 w_6 hp => ?_)
  obtain ⟨rfl, rfl⟩ := hp
  refine g_eq (st' := [.int (orN (fdB (fun j => decide (12 * sv_cr s j + sv_cc s j = ((12 * y) + x))) (sv_nc s)))]) (ws' := [(u0, .inr (9, [.ref u1, .ref u2, .ref u3, .ref u4, .ref u5, .ref u6, .int (nI kn), .ref u7, .int (bB ik), .ref u8, .int (nI ty), .ref u9, .int (nI ta), .int (bB iw), .ref u10, .ref u11])), (u5, .inl (tyI D, 208, .inl M))]) rfl rfl rfl ?_
  refine g_eq (st' := [.int (nI k)]) (by rw [hd]; rfl) rfl rfl ?_
  refine g_bipush (x := (-5)) O dX9_clamp_35 (by decide +kernel) ?_
  refine g_icmp_eq (tgt := 43) O dX9_clamp_37 (by decide) (fun c_7 => (by exfalso; have h2 := (nI_toInt (n := k) (by omega)).symm.trans (congrArg Int32.toInt c_7); have h3 : (-5 : Int32).toInt = -5 := (by decide +kernel); rw [h3] at h2; omega)) (fun c_7 => ?_)
  refine g_bipush (x := (-5)) O dX9_clamp_40 (by decide +kernel) ?_
  exact E 42 _ (-5) _ dX9_clamp_42 ⟨rfl, rfl⟩

set_option maxHeartbeats 2000000 in
set_option maxRecDepth 100000 in
theorem kX9_clamp_ok (l : Launch) (D : va_G) (z : Nat × Nat × Nat) (u0 : Nat) (u1 : Nat) (u2 : Nat) (u3 : Nat) (u4 : Nat) (u5 : Nat) (u6 : Nat) (u7 : Nat) (u8 : Nat) (u9 : Nat) (u10 : Nat) (u11 : Nat) (kn : Nat) (ik : Bool) (ty : Nat) (ta : Nat) (iw : Bool) (M : Nat → Int32) (Bf : Nat → Int32) (s : SV) (x : Nat) (y : Nat) (hM : RM M s) (hkn : kn ≤ 4) (hx : x < 12) (hy : y < 12) (hnc : sv_nc s ≤ 4) (hcc : ∀ j, j < sv_nc s → sv_cc s j < 12 ∧ sv_cr s j < 12) (hb : sv_nc s < 4) (hd : (fdB (fun j => decide (12 * sv_cr s j + sv_cc s j = 12 * y + x)) (sv_nc s)) = none) : CM l yX9_clamp wsX9_clamp ({ frames := 2, cells := 0, slots := 0, locals := 43 } : Room) D z [.ref u0, .int (nI x), .int (nI y)] [(u0, .inr (9, [.ref u1, .ref u2, .ref u3, .ref u4, .ref u5, .ref u6, .int (nI kn), .ref u7, .int (bB ik), .ref u8, .int (nI ty), .ref u9, .int (nI ta), .int (bB iw), .ref u10, .ref u11])), (u5, .inl (tyI D, 208, .inl M)), (u6, .inl (tyI D, 832, .inl Bf))] (fun r_ w_ => ∃ (M9 : Nat → Int32), (RM M9 (mkS (sv_g s) (upf (sv_cc s) (sv_nc s) x) (upf (sv_cr s) (sv_nc s) y) (sv_nc s + 1) (sv_se s) (sv_fs s) (sv_fa s) (sv_fk s) (sv_ps s) (sv_la s) (sv_st s) (sv_sw s) (sv_fl s) (sv_sk s) (sv_mu s))) ∧ r_ = some (.int (nI (sv_nc s + 1))) ∧ w_ = [(u0, .inr (9, [.ref u1, .ref u2, .ref u3, .ref u4, .ref u5, .ref u6, .int (nI (rhN kn)), .ref u7, .int (bB ik), .ref u8, .int (nI ty), .ref u9, .int (nI ta), .int (bB iw), .ref u10, .ref u11])), (u5, .inl (tyI D, 208, .inl M9)), (u6, .inl (tyI D, 832, .inl (kwF Bf M kn)))]) 0 0 := by
  refine CM_int (own := RX9) (cc := cX9_clamp) (maxL := 3) (L0 := [(0, .ref u0), (1, .int (nI x)), (2, .int (nI y))]) (by decide) rfl rfl (Nat.le_of_ble_eq_true rfl) rfl (fun X O E => ?_)
  refine g_iload_n O dX9_clamp_0 1 rfl rfl ?_
  refine g_iload_n O dX9_clamp_1 2 rfl rfl ?_
  refine g_callS (As := [.int (nI x), .int (nI y)]) (wr := [(u0, .inr (9, [.ref u1, .ref u2, .ref u3, .ref u4, .ref u5, .ref u6, .int (nI kn), .ref u7, .int (bB ik), .ref u8, .int (nI ty), .ref u9, .int (nI ta), .int (bB iw), .ref u10, .ref u11])), (u5, .inl (tyI D, 208, .inl M)), (u6, .inl (tyI D, 832, .inl Bf))]) O (kX9_isOn l D z (nI x) (nI y) ) gX9_clamp_X9_isOn rfl rfl rfl 2 (by decide +kernel) (by decide) (by decide) [] [0, 1, 2] rfl (by decide) rfl (by decide) (by decide) rfl rfl (Nat.le_of_ble_eq_true rfl) dX9_clamp_2 (fun r_1 w_2 hp => ?_)
  obtain ⟨rfl, rfl⟩ := hp
  refine g_eq (st' := [.int (bB (rgB (nI x) 12 && rgB (nI y) 12))]) (ws' := [(u0, .inr (9, [.ref u1, .ref u2, .ref u3, .ref u4, .ref u5, .ref u6, .int (nI kn), .ref u7, .int (bB ik), .ref u8, .int (nI ty), .ref u9, .int (nI ta), .int (bB iw), .ref u10, .ref u11])), (u5, .inl (tyI D, 208, .inl M)), (u6, .inl (tyI D, 832, .inl Bf))]) rfl rfl rfl ?_
  refine g_if_neB (tgt := 10) O dX9_clamp_5 (by decide) (fun c_3 => ?_) (fun c_3 => absurd c_3 (by rw [rgB_t hx (by decide), rgB_t hy (by decide)]; decide))
  refine g_aload_n O dX9_clamp_10 0 rfl rfl ?_
  refine g_get O hiX9_clamp_X9 0 rfl rfl 4 (by decide) (by decide +kernel) rfl dX9_clamp_11 ?_
  refine g_sipush (x := (nI 154)) O dX9_clamp_14 (by decide +kernel) ?_
  refine g_ialdN O 1 rfl (by omega) (by omega) dX9_clamp_17 ?_
  refine g_eq (st' := [.int (nI (sv_nc s))]) (by rw [RM_nc hM]) rfl rfl ?_
  refine g_iconst (x := (nI 4)) O dX9_clamp_18 (by decide +kernel) ?_
  refine g_icmp_neN (tgt := 25) O (by omega) (by omega) dX9_clamp_19 (by decide) (fun c_4 => ?_) (fun c_4 => absurd c_4 (by omega))
  refine g_aload_n O dX9_clamp_25 0 rfl rfl ?_
  refine g_bipush (x := (nI 12)) O dX9_clamp_26 (by decide +kernel) ?_
  refine g_iload_n O dX9_clamp_28 2 rfl rfl ?_
  refine g_imulN O dX9_clamp_29 ?_
  refine g_iload_n O dX9_clamp_30 1 rfl rfl ?_
  refine g_iaddN O dX9_clamp_31 ?_
  refine g_callV (As := [.int (nI ((12 * y) + x))]) (wr := [(u6, .inl (tyI D, 832, .inl Bf))]) O (kX9_clampOn l D z u0 u1 u2 u3 u4 u5 u6 u7 u8 u9 u10 u11 kn ik ty ta iw M s ((12 * y) + x) (by first | assumption | omega) (by first | assumption | omega) (by first | assumption | omega) (by first | assumption | omega)) gX9_clamp_X9_clampOn rfl rfl rfl 1 (by decide +kernel) (by decide) (by decide) (q0 := 0) rfl rfl rfl [0, 1] [2] rfl (by decide) rfl (by decide) (by decide) rfl rfl (Nat.le_of_ble_eq_true rfl) dX9_clamp_32 (fun r_5 w_6 hp => ?_)
  obtain ⟨rfl, rfl⟩ := hp
  refine g_eq (st' := [.int (orN (fdB (fun j => decide (12 * sv_cr s j + sv_cc s j = ((12 * y) + x))) (sv_nc s)))]) (ws' := [(u6, .inl (tyI D, 832, .inl Bf)), (u0, .inr (9, [.ref u1, .ref u2, .ref u3, .ref u4, .ref u5, .ref u6, .int (nI kn), .ref u7, .int (bB ik), .ref u8, .int (nI ty), .ref u9, .int (nI ta), .int (bB iw), .ref u10, .ref u11])), (u5, .inl (tyI D, 208, .inl M))]) rfl rfl rfl ?_
  refine g_eq (st' := [.int (-5)]) (by rw [hd]; rfl) rfl rfl ?_
  refine g_bipush (x := (-5)) O dX9_clamp_35 (by decide +kernel) ?_
  refine g_icmp_eq (tgt := 43) O dX9_clamp_37 (by decide) (fun c_7 => ?_) (fun c_7 => absurd c_7 (fun h => h rfl))
  refine g_aload_n O dX9_clamp_43 0 rfl rfl ?_
  refine g_callV (As := []) (wr := []) O (kX9_know l D z u0 u1 u2 u3 u4 u5 u6 u7 u8 u9 u10 u11 kn ik ty ta iw M Bf (by first | assumption | omega)) gX9_clamp_X9_know rfl rfl rfl 0 (by decide +kernel) (by decide) (by decide) (q0 := 0) rfl rfl rfl [1, 2, 0] [] rfl (by decide) rfl (by decide) (by decide) rfl rfl (Nat.le_of_ble_eq_true rfl) dX9_clamp_44 (fun r_8 w_9 hp => ?_)
  obtain ⟨rfl, rfl⟩ := hp
  refine g_eq (st' := []) (ws' := [(u0, .inr (9, [.ref u1, .ref u2, .ref u3, .ref u4, .ref u5, .ref u6, .int (nI (rhN kn)), .ref u7, .int (bB ik), .ref u8, .int (nI ty), .ref u9, .int (nI ta), .int (bB iw), .ref u10, .ref u11])), (u5, .inl (tyI D, 208, .inl M)), (u6, .inl (tyI D, 832, .inl (kwF Bf M kn)))]) rfl rfl rfl ?_
  refine g_aload_n O dX9_clamp_47 0 rfl rfl ?_
  refine g_get O hiX9_clamp_X9 0 rfl rfl 4 (by decide) (by decide +kernel) rfl dX9_clamp_48 ?_
  refine g_sipush (x := (nI 155)) O dX9_clamp_51 (by decide +kernel) ?_
  refine g_aload_n O dX9_clamp_54 0 rfl rfl ?_
  refine g_get O hiX9_clamp_X9 0 rfl rfl 4 (by decide) (by decide +kernel) rfl dX9_clamp_55 ?_
  refine g_sipush (x := (nI 154)) O dX9_clamp_58 (by decide +kernel) ?_
  refine g_ialdN O 1 rfl (by omega) (by omega) dX9_clamp_61 ?_
  refine g_eq (st' := [.int (nI (sv_nc s)), .int (nI 155), .ref u5]) (by rw [RM_nc hM]) rfl rfl ?_
  refine g_iaddN O dX9_clamp_62 ?_
  refine g_bipush (x := (nI 12)) O dX9_clamp_63 (by decide +kernel) ?_
  refine g_iload_n O dX9_clamp_65 2 rfl rfl ?_
  refine g_imulN O dX9_clamp_66 ?_
  refine g_iload_n O dX9_clamp_67 1 rfl rfl ?_
  refine g_iaddN O dX9_clamp_68 ?_
  refine g_iastN (f' := (upd M (155 + (sv_nc s)) (nI ((12 * y) + x)))) (ws' := [(u0, .inr (9, [.ref u1, .ref u2, .ref u3, .ref u4, .ref u5, .ref u6, .int (nI (rhN kn)), .ref u7, .int (bB ik), .ref u8, .int (nI ty), .ref u9, .int (nI ta), .int (bB iw), .ref u10, .ref u11])), (u5, .inl (tyI D, 208, .inl (upd M (155 + (sv_nc s)) (nI ((12 * y) + x))))), (u6, .inl (tyI D, 832, .inl (kwF Bf M kn)))]) O 1 rfl (by omega) (by omega) dX9_clamp_69 rfl rfl ?_
  have hM1 : RM (upd M (155 + (sv_nc s)) (nI ((12 * y) + x))) s := RM_stC hM (Nat.le_refl _) hb
  have hv : (upd M (155 + (sv_nc s)) (nI ((12 * y) + x))) (155 + sv_nc s) = nI ((12 * y) + x) := pk_us
  generalize (upd M (155 + (sv_nc s)) (nI ((12 * y) + x))) = M1 at hM1 hv ⊢
  refine g_aload_n O dX9_clamp_70 0 rfl rfl ?_
  refine g_get O hiX9_clamp_X9 0 rfl rfl 4 (by decide) (by decide +kernel) rfl dX9_clamp_71 ?_
  refine g_sipush (x := (nI 154)) O dX9_clamp_74 (by decide +kernel) ?_
  refine g_dup2 O dX9_clamp_77 rfl rfl ?_
  refine g_ialdN O 1 rfl (by omega) (by omega) dX9_clamp_78 ?_
  refine g_eq (st' := [.int (nI (sv_nc s)), .int (nI 154), .ref u5]) (by rw [RM_nc hM1]) rfl rfl ?_
  refine g_iconst (x := (nI 1)) O dX9_clamp_79 (by decide +kernel) ?_
  refine g_iaddN O dX9_clamp_80 ?_
  refine g_iastN (f' := (upd M1 154 (nI ((sv_nc s) + 1)))) (ws' := [(u0, .inr (9, [.ref u1, .ref u2, .ref u3, .ref u4, .ref u5, .ref u6, .int (nI (rhN kn)), .ref u7, .int (bB ik), .ref u8, .int (nI ty), .ref u9, .int (nI ta), .int (bB iw), .ref u10, .ref u11])), (u5, .inl (tyI D, 208, .inl (upd M1 154 (nI ((sv_nc s) + 1))))), (u6, .inl (tyI D, 832, .inl (kwF Bf M kn)))]) O 1 rfl (by omega) (by omega) dX9_clamp_81 rfl rfl ?_
  have hMf : RM (upd M1 154 (nI ((sv_nc s) + 1))) (s_cl s (upf (sv_cc s) (sv_nc s) x) (upf (sv_cr s) (sv_nc s) y) (sv_nc s + 1)) := RM_wnc hM1 hb hv
  generalize (upd M1 154 (nI ((sv_nc s) + 1))) = M2 at hMf ⊢
  refine g_aload_n O dX9_clamp_82 0 rfl rfl ?_
  refine g_get O hiX9_clamp_X9 0 rfl rfl 4 (by decide) (by decide +kernel) rfl dX9_clamp_83 ?_
  refine g_sipush (x := (nI 154)) O dX9_clamp_86 (by decide +kernel) ?_
  refine g_ialdN O 1 rfl (by omega) (by omega) dX9_clamp_89 ?_
  refine g_eq (st' := [.int (nI (sv_nc (s_cl s (upf (sv_cc s) (sv_nc s) x) (upf (sv_cr s) (sv_nc s) y) (sv_nc s + 1))))]) (by rw [RM_nc hMf]) rfl rfl ?_
  refine g_eq (st' := [.int (nI (sv_nc s + 1))]) rfl rfl rfl ?_
  exact E 90 _ (nI (sv_nc s + 1)) _ dX9_clamp_90 (⟨_, hMf, rfl, rfl⟩)

theorem hiX9_unclamp_X9 : ∀ w ∈ wsX90, w ∈ wsX9_unclamp := by intro w h; simp only [wsX9_unclamp, List.mem_append, List.mem_cons, h, or_true, true_or]
set_option maxHeartbeats 2000000 in
set_option maxRecDepth 100000 in
theorem kX9_unclamp_b1 (l : Launch) (D : va_G) (z : Nat × Nat × Nat) (u0 : Nat) (u1 : Nat) (u2 : Nat) (u3 : Nat) (u4 : Nat) (u5 : Nat) (u6 : Nat) (u7 : Nat) (u8 : Nat) (u9 : Nat) (u10 : Nat) (u11 : Nat) (kn : Nat) (ik : Bool) (ty : Nat) (ta : Nat) (iw : Bool) (M : Nat → Int32) (s : SV) (x : Int32) (hM : RM M s) (hnc : sv_nc s ≤ 4) (hb : rgB x (sv_nc s) = false) : CM l yX9_unclamp wsX9_unclamp ({ frames := 1, cells := 0, slots := 0, locals := 22 } : Room) D z [.ref u0, .int x] [(u0, .inr (9, [.ref u1, .ref u2, .ref u3, .ref u4, .ref u5, .ref u6, .int (nI kn), .ref u7, .int (bB ik), .ref u8, .int (nI ty), .ref u9, .int (nI ta), .int (bB iw), .ref u10, .ref u11])), (u5, .inl (tyI D, 208, .inl M))] (fun r_ w_ => r_ = some (.int (-1)) ∧ w_ = [(u0, .inr (9, [.ref u1, .ref u2, .ref u3, .ref u4, .ref u5, .ref u6, .int (nI kn), .ref u7, .int (bB ik), .ref u8, .int (nI ty), .ref u9, .int (nI ta), .int (bB iw), .ref u10, .ref u11])), (u5, .inl (tyI D, 208, .inl M))]) 0 0 := by
  refine CM_int (own := RX9) (cc := cX9_unclamp) (maxL := 3) (L0 := [(0, .ref u0), (1, .int x)]) (by decide) rfl rfl (Nat.le_of_ble_eq_true rfl) rfl (fun X O E => ?_)
  refine g_iload_n O dX9_unclamp_0 1 rfl rfl ?_
  refine g_iconst (x := (nI 0)) O dX9_unclamp_1 (by decide +kernel) ?_
  refine g_aload_n O dX9_unclamp_2 0 rfl rfl ?_
  refine g_get O hiX9_unclamp_X9 0 rfl rfl 4 (by decide) (by decide +kernel) rfl dX9_unclamp_3 ?_
  refine g_sipush (x := (nI 154)) O dX9_unclamp_6 (by decide +kernel) ?_
  refine g_ialdN O 1 rfl (by omega) (by omega) dX9_unclamp_9 ?_
  refine g_eq (st' := [.int (nI (sv_nc s)), .int (nI 0), .int x]) (by rw [RM_nc hM]) rfl rfl ?_
  refine g_iconst (x := (nI 1)) O dX9_unclamp_10 (by decide +kernel) ?_
  refine g_isub O dX9_unclamp_11 ?_
  refine g_callS (As := [.int x, .int (nI 0), .int ((nI (sv_nc s)) - (nI 1))]) (wr := [(u0, .inr (9, [.ref u1, .ref u2, .ref u3, .ref u4, .ref u5, .ref u6, .int (nI kn), .ref u7, .int (bB ik), .ref u8, .int (nI ty), .ref u9, .int (nI ta), .int (bB iw), .ref u10, .ref u11])), (u5, .inl (tyI D, 208, .inl M))]) O (kX9_in l D z x (nI 0) ((nI (sv_nc s)) - (nI 1)) ) gX9_unclamp_X9_in rfl rfl rfl 3 (by decide +kernel) (by decide) (by decide) [] [0, 1] rfl (by decide) rfl (by decide) (by decide) rfl rfl (Nat.le_of_ble_eq_true rfl) dX9_unclamp_12 (fun r_1 w_2 hp => ?_)
  obtain ⟨rfl, rfl⟩ := hp
  refine g_eq (st' := [.int (bB (inI x (nI 0) ((nI (sv_nc s)) - (nI 1))))]) (ws' := [(u0, .inr (9, [.ref u1, .ref u2, .ref u3, .ref u4, .ref u5, .ref u6, .int (nI kn), .ref u7, .int (bB ik), .ref u8, .int (nI ty), .ref u9, .int (nI ta), .int (bB iw), .ref u10, .ref u11])), (u5, .inl (tyI D, 208, .inl M))]) rfl rfl rfl ?_
  refine g_eq (st' := [.int (bB (rgB x (sv_nc s)))]) (by rw [inI_n1 _ hnc]) rfl rfl ?_
  refine g_if_neB (tgt := 20) O dX9_unclamp_15 (by decide) (fun c_3 => absurd c_3 (by rw [hb]; decide)) (fun c_3 => ?_)
  refine g_iconst (x := (-1)) O dX9_unclamp_18 (by decide +kernel) ?_
  exact E 19 _ (-1) _ dX9_unclamp_19 ⟨rfl, rfl⟩

set_option maxHeartbeats 2000000 in
set_option maxRecDepth 100000 in
theorem kX9_unclamp_ok (l : Launch) (D : va_G) (z : Nat × Nat × Nat) (u0 : Nat) (u1 : Nat) (u2 : Nat) (u3 : Nat) (u4 : Nat) (u5 : Nat) (u6 : Nat) (u7 : Nat) (u8 : Nat) (u9 : Nat) (u10 : Nat) (u11 : Nat) (kn : Nat) (ik : Bool) (ty : Nat) (ta : Nat) (iw : Bool) (M : Nat → Int32) (Bf : Nat → Int32) (s : SV) (d : Nat) (hM : RM M s) (hkn : kn ≤ 4) (hd : d < sv_nc s) (hnc : sv_nc s ≤ 4) : CM l yX9_unclamp wsX9_unclamp ({ frames := 1, cells := 0, slots := 0, locals := 22 } : Room) D z [.ref u0, .int (nI d)] [(u0, .inr (9, [.ref u1, .ref u2, .ref u3, .ref u4, .ref u5, .ref u6, .int (nI kn), .ref u7, .int (bB ik), .ref u8, .int (nI ty), .ref u9, .int (nI ta), .int (bB iw), .ref u10, .ref u11])), (u5, .inl (tyI D, 208, .inl M)), (u6, .inl (tyI D, 832, .inl Bf))] (fun r_ w_ => ∃ (M9 : Nat → Int32), (RM M9 (mkS (sv_g s) (drf (sv_cc s) d (sv_nc s - 1 - d)) (drf (sv_cr s) d (sv_nc s - 1 - d)) (sv_nc s - 1) (sv_se s) (sv_fs s) (sv_fa s) (sv_fk s) (sv_ps s) (sv_la s) (sv_st s) (sv_sw s) (sv_fl s) (sv_sk s) (sv_mu s))) ∧ r_ = some (.int (nI (sv_nc s - 1))) ∧ w_ = [(u0, .inr (9, [.ref u1, .ref u2, .ref u3, .ref u4, .ref u5, .ref u6, .int (nI (rhN kn)), .ref u7, .int (bB ik), .ref u8, .int (nI ty), .ref u9, .int (nI ta), .int (bB iw), .ref u10, .ref u11])), (u5, .inl (tyI D, 208, .inl M9)), (u6, .inl (tyI D, 832, .inl (kwF Bf M kn)))]) 0 0 := by
  refine CM_int (own := RX9) (cc := cX9_unclamp) (maxL := 3) (L0 := [(0, .ref u0), (1, .int (nI d))]) (by decide) rfl rfl (Nat.le_of_ble_eq_true rfl) rfl (fun X O E => ?_)
  refine g_iload_n O dX9_unclamp_0 1 rfl rfl ?_
  refine g_iconst (x := (nI 0)) O dX9_unclamp_1 (by decide +kernel) ?_
  refine g_aload_n O dX9_unclamp_2 0 rfl rfl ?_
  refine g_get O hiX9_unclamp_X9 0 rfl rfl 4 (by decide) (by decide +kernel) rfl dX9_unclamp_3 ?_
  refine g_sipush (x := (nI 154)) O dX9_unclamp_6 (by decide +kernel) ?_
  refine g_ialdN O 1 rfl (by omega) (by omega) dX9_unclamp_9 ?_
  refine g_eq (st' := [.int (nI (sv_nc s)), .int (nI 0), .int (nI d)]) (by rw [RM_nc hM]) rfl rfl ?_
  refine g_iconst (x := (nI 1)) O dX9_unclamp_10 (by decide +kernel) ?_
  refine g_isub O dX9_unclamp_11 ?_
  refine g_callS (As := [.int (nI d), .int (nI 0), .int ((nI (sv_nc s)) - (nI 1))]) (wr := [(u0, .inr (9, [.ref u1, .ref u2, .ref u3, .ref u4, .ref u5, .ref u6, .int (nI kn), .ref u7, .int (bB ik), .ref u8, .int (nI ty), .ref u9, .int (nI ta), .int (bB iw), .ref u10, .ref u11])), (u5, .inl (tyI D, 208, .inl M)), (u6, .inl (tyI D, 832, .inl Bf))]) O (kX9_in l D z (nI d) (nI 0) ((nI (sv_nc s)) - (nI 1)) ) gX9_unclamp_X9_in rfl rfl rfl 3 (by decide +kernel) (by decide) (by decide) [] [0, 1, 2] rfl (by decide) rfl (by decide) (by decide) rfl rfl (Nat.le_of_ble_eq_true rfl) dX9_unclamp_12 (fun r_1 w_2 hp => ?_)
  obtain ⟨rfl, rfl⟩ := hp
  refine g_eq (st' := [.int (bB (inI (nI d) (nI 0) ((nI (sv_nc s)) - (nI 1))))]) (ws' := [(u0, .inr (9, [.ref u1, .ref u2, .ref u3, .ref u4, .ref u5, .ref u6, .int (nI kn), .ref u7, .int (bB ik), .ref u8, .int (nI ty), .ref u9, .int (nI ta), .int (bB iw), .ref u10, .ref u11])), (u5, .inl (tyI D, 208, .inl M)), (u6, .inl (tyI D, 832, .inl Bf))]) rfl rfl rfl ?_
  refine g_eq (st' := [.int (bB (rgB (nI d) (sv_nc s)))]) (by rw [inI_n1 _ hnc]) rfl rfl ?_
  refine g_if_neB (tgt := 20) O dX9_unclamp_15 (by decide) (fun c_3 => ?_) (fun c_3 => absurd c_3 (by rw [rgB_t hd (by omega)]; decide))
  refine g_aload_n O dX9_unclamp_20 0 rfl rfl ?_
  refine g_callV (As := []) (wr := []) O (kX9_know l D z u0 u1 u2 u3 u4 u5 u6 u7 u8 u9 u10 u11 kn ik ty ta iw M Bf (by first | assumption | omega)) gX9_unclamp_X9_know rfl rfl rfl 0 (by decide +kernel) (by decide) (by decide) (q0 := 0) rfl rfl rfl [0, 1, 2] [] rfl (by decide) rfl (by decide) (by decide) rfl rfl (Nat.le_of_ble_eq_true rfl) dX9_unclamp_21 (fun r_4 w_5 hp => ?_)
  obtain ⟨rfl, rfl⟩ := hp
  refine g_eq (st' := []) (ws' := [(u0, .inr (9, [.ref u1, .ref u2, .ref u3, .ref u4, .ref u5, .ref u6, .int (nI (rhN kn)), .ref u7, .int (bB ik), .ref u8, .int (nI ty), .ref u9, .int (nI ta), .int (bB iw), .ref u10, .ref u11])), (u5, .inl (tyI D, 208, .inl M)), (u6, .inl (tyI D, 832, .inl (kwF Bf M kn)))]) rfl rfl rfl ?_
  refine g_aload_n O dX9_unclamp_24 0 rfl rfl ?_
  refine g_get O hiX9_unclamp_X9 0 rfl rfl 4 (by decide) (by decide +kernel) rfl dX9_unclamp_25 ?_
  refine g_sipush (x := (nI 154)) O dX9_unclamp_28 (by decide +kernel) ?_
  refine g_dup2 O dX9_unclamp_31 rfl rfl ?_
  refine g_ialdN O 1 rfl (by omega) (by omega) dX9_unclamp_32 ?_
  refine g_eq (st' := [.int (nI (sv_nc s)), .int (nI 154), .ref u5]) (by rw [RM_nc hM]) rfl rfl ?_
  refine g_iconst (x := (nI 1)) O dX9_unclamp_33 (by decide +kernel) ?_
  refine g_isubN O (by omega) dX9_unclamp_34 ?_
  refine g_iastN (f' := (upd M 154 (nI ((sv_nc s) - 1)))) (ws' := [(u0, .inr (9, [.ref u1, .ref u2, .ref u3, .ref u4, .ref u5, .ref u6, .int (nI (rhN kn)), .ref u7, .int (bB ik), .ref u8, .int (nI ty), .ref u9, .int (nI ta), .int (bB iw), .ref u10, .ref u11])), (u5, .inl (tyI D, 208, .inl (upd M 154 (nI ((sv_nc s) - 1))))), (u6, .inl (tyI D, 832, .inl (kwF Bf M kn)))]) O 1 rfl (by omega) (by omega) dX9_unclamp_35 rfl rfl ?_
  obtain ⟨M1, eM1⟩ : ∃ f, f = upd M 154 (nI ((sv_nc s) - 1)) := ⟨_, rfl⟩
  refine g_eq (ws' := [(u0, .inr (9, [.ref u1, .ref u2, .ref u3, .ref u4, .ref u5, .ref u6, .int (nI (rhN kn)), .ref u7, .int (bB ik), .ref u8, .int (nI ty), .ref u9, .int (nI ta), .int (bB iw), .ref u10, .ref u11])), (u5, .inl (tyI D, 208, .inl M1)), (u6, .inl (tyI D, 832, .inl (kwF Bf M kn)))]) rfl rfl (by rw [eM1]) ?_
  have h154 : M1 154 = nI (sv_nc s - 1) := by rw [eM1]; exact pk_us
  refine g_iload_n O dX9_unclamp_36 1 rfl rfl ?_
  refine g_istore_n (L' := [(0, .ref u0), (1, .int (nI d)), (2, .int (nI d))]) O dX9_unclamp_37 rfl (by decide) [1, 2, 0] rfl ?_
  have J38 : ∀ (n_ : Nat), ∀ (i_ : Nat) (F_ : Nat → Int32) (hi_ : d + i_ ≤ sv_nc s - 1) (hF : F_ = shf M1 (155 + d) 1 i_) (h154 : F_ 154 = nI (sv_nc s - 1)), 4 - i_ < n_ → G X 0 0 38 [(0, .ref u0), (1, .int (nI d)), (2, .int (nI (d + i_)))] [] [(u0, .inr (9, [.ref u1, .ref u2, .ref u3, .ref u4, .ref u5, .ref u6, .int (nI (rhN kn)), .ref u7, .int (bB ik), .ref u8, .int (nI ty), .ref u9, .int (nI ta), .int (bB iw), .ref u10, .ref u11])), (u5, .inl (tyI D, 208, .inl F_)), (u6, .inl (tyI D, 832, .inl (kwF Bf M kn)))] := by
    intro n_
    induction n_ with
    | zero => intro i_ F_ hi_ hF h154 hm_; exact absurd hm_ (Nat.not_lt_zero _)
    | succ n_ ih_ =>
      intro i_ F_ hi_ hF h154 hm_
      refine g_iload_n O dX9_unclamp_38 2 rfl rfl ?_
      refine g_aload_n O dX9_unclamp_39 0 rfl rfl ?_
      refine g_get O hiX9_unclamp_X9 0 rfl rfl 4 (by decide) (by decide +kernel) rfl dX9_unclamp_40 ?_
      refine g_sipush (x := (nI 154)) O dX9_unclamp_43 (by decide +kernel) ?_
      refine g_ialdN O 1 rfl (by omega) (by omega) dX9_unclamp_46 ?_
      refine g_eq (st' := [.int (nI (sv_nc s - 1)), .int (nI (d + i_))]) (by rw [h154]) rfl rfl ?_
      refine g_icmp_geN (tgt := 78) O (by omega) (by omega) dX9_unclamp_47 (by decide) (fun c_6 => ?_) (fun c_6 => ?_)
      ·
        obtain rfl : i_ = sv_nc s - 1 - d := by omega
        refine g_aload_n O dX9_unclamp_78 0 rfl rfl ?_
        refine g_get O hiX9_unclamp_X9 0 rfl rfl 4 (by decide) (by decide +kernel) rfl dX9_unclamp_79 ?_
        refine g_sipush (x := (nI 154)) O dX9_unclamp_82 (by decide +kernel) ?_
        refine g_ialdN O 1 rfl (by omega) (by omega) dX9_unclamp_85 ?_
        refine g_eq (st' := [.int (nI (sv_nc s - 1))]) (by rw [h154]) rfl rfl ?_
        exact E 86 _ (nI (sv_nc s - 1)) _ dX9_unclamp_86 (⟨_, (by rw [hF, eM1]; exact RM_drop hM hd hnc), rfl, rfl⟩)
      ·
        refine g_aload_n O dX9_unclamp_50 0 rfl rfl ?_
        refine g_get O hiX9_unclamp_X9 0 rfl rfl 4 (by decide) (by decide +kernel) rfl dX9_unclamp_51 ?_
        refine g_sipush (x := (nI 155)) O dX9_unclamp_54 (by decide +kernel) ?_
        refine g_iload_n O dX9_unclamp_57 2 rfl rfl ?_
        refine g_iaddN O dX9_unclamp_58 ?_
        refine g_aload_n O dX9_unclamp_59 0 rfl rfl ?_
        refine g_get O hiX9_unclamp_X9 0 rfl rfl 4 (by decide) (by decide +kernel) rfl dX9_unclamp_60 ?_
        refine g_sipush (x := (nI 155)) O dX9_unclamp_63 (by decide +kernel) ?_
        refine g_iload_n O dX9_unclamp_66 2 rfl rfl ?_
        refine g_iaddN O dX9_unclamp_67 ?_
        refine g_iconst (x := (nI 1)) O dX9_unclamp_68 (by decide +kernel) ?_
        refine g_iaddN O dX9_unclamp_69 ?_
        refine g_ialdN O 1 rfl (by omega) (by omega) dX9_unclamp_70 ?_
        refine g_iastN (f' := (upd F_ (155 + (d + i_)) (F_ ((155 + (d + i_)) + 1)))) (ws' := [(u0, .inr (9, [.ref u1, .ref u2, .ref u3, .ref u4, .ref u5, .ref u6, .int (nI (rhN kn)), .ref u7, .int (bB ik), .ref u8, .int (nI ty), .ref u9, .int (nI ta), .int (bB iw), .ref u10, .ref u11])), (u5, .inl (tyI D, 208, .inl (upd F_ (155 + (d + i_)) (F_ ((155 + (d + i_)) + 1))))), (u6, .inl (tyI D, 832, .inl (kwF Bf M kn)))]) O 1 rfl (by omega) (by omega) dX9_unclamp_71 rfl rfl ?_
        refine g_iincN (L' := [(0, .ref u0), (1, .int (nI d)), (2, .int (nI (d + i_ + 1)))]) O dX9_unclamp_72 2 rfl (by decide) [1, 2, 0] rfl ?_
        refine g_goto (tgt := 38) O dX9_unclamp_75 (by decide) ?_
        exact ih_ (i_ + 1) _ (by first | assumption | omega | rfl) (by rw [hF, show 155 + (d + i_) = 155 + d + i_ by omega]; exact shf_s M1 (155 + d) 1 i_ (by omega)) (by rw [pk_un (by omega)]; exact h154) (by omega)
  exact J38 _ 0 M1 (by omega) ((shf_0 _ _ _).symm) (by first | assumption | omega | rfl) (Nat.lt_succ_self _)

set_option maxHeartbeats 2000000 in
set_option maxRecDepth 100000 in
theorem kX9_set_b1 (l : Launch) (D : va_G) (z : Nat × Nat × Nat) (u0 : Nat) (u1 : Nat) (u2 : Nat) (u3 : Nat) (u4 : Nat) (u5 : Nat) (u6 : Nat) (u7 : Nat) (u8 : Nat) (u9 : Nat) (u10 : Nat) (u11 : Nat) (kn : Nat) (ik : Bool) (ty : Nat) (ta : Nat) (iw : Bool) (w : Int32) (x : Int32) (hb : rgB w 4 = false) : CM l yX9_set wsX9_set ({ frames := 1, cells := 0, slots := 0, locals := 22 } : Room) D z [.ref u0, .int w, .int x] [(u0, .inr (9, [.ref u1, .ref u2, .ref u3, .ref u4, .ref u5, .ref u6, .int (nI kn), .ref u7, .int (bB ik), .ref u8, .int (nI ty), .ref u9, .int (nI ta), .int (bB iw), .ref u10, .ref u11]))] (fun r_ w_ => r_ = some (.int (-2)) ∧ w_ = [(u0, .inr (9, [.ref u1, .ref u2, .ref u3, .ref u4, .ref u5, .ref u6, .int (nI kn), .ref u7, .int (bB ik), .ref u8, .int (nI ty), .ref u9, .int (nI ta), .int (bB iw), .ref u10, .ref u11]))]) 0 0 := by
  refine CM_int (own := RX9) (cc := cX9_set) (maxL := 6) (L0 := [(0, .ref u0), (1, .int w), (2, .int x)]) (by decide) rfl rfl (Nat.le_of_ble_eq_true rfl) rfl (fun X O E => ?_)
  refine g_iload_n O dX9_set_0 1 rfl rfl ?_
  refine g_iconst (x := (nI 1)) O dX9_set_1 (by decide +kernel) ?_
  refine g_icmp_ne (tgt := 9) O dX9_set_2 (by decide) (fun c_1 => ?_) (fun c_1 => absurd c_1 (fun h => by rw [h] at hb; revert hb; decide))
  refine g_iload_n O dX9_set_9 1 rfl rfl ?_
  refine g_iconst (x := (nI 3)) O dX9_set_10 (by decide +kernel) ?_
  refine g_icmp_ne (tgt := 19) O dX9_set_11 (by decide) (fun c_2 => ?_) (fun c_2 => absurd c_2 (fun h => by rw [h] at hb; revert hb; decide))
  refine g_iconst (x := (nI 0)) O dX9_set_19 (by decide +kernel) ?_
  refine g_istore_n (L' := [(0, .ref u0), (1, .int w), (2, .int x), (3, .int (nI 0))]) O dX9_set_20 rfl (by decide) [1, 2, 3, 0] rfl ?_
  refine g_iload_n O dX9_set_21 1 rfl rfl ?_
  refine g_iconst (x := (nI 1)) O dX9_set_22 (by decide +kernel) ?_
  refine g_icmp_ne (tgt := 32) O dX9_set_23 (by decide) (fun c_3 => ?_) (fun c_3 => absurd c_3 (fun h => by rw [h] at hb; revert hb; decide))
  refine g_iload_n O dX9_set_32 1 rfl rfl ?_
  refine g_iconst (x := (nI 3)) O dX9_set_33 (by decide +kernel) ?_
  refine g_icmp_ne (tgt := 43) O dX9_set_34 (by decide) (fun c_4 => ?_) (fun c_4 => absurd c_4 (fun h => by rw [h] at hb; revert hb; decide))
  refine g_bipush (x := (nI 60)) O dX9_set_43 (by decide +kernel) ?_
  refine g_istore (L' := [(0, .ref u0), (1, .int w), (2, .int x), (3, .int (nI 0)), (4, .int (nI 60))]) O dX9_set_45 (by decide) [1, 2, 3, 4, 0] rfl ?_
  refine g_iload_n O dX9_set_47 1 rfl rfl ?_
  refine g_iconst (x := (nI 0)) O dX9_set_48 (by decide +kernel) ?_
  refine g_iconst (x := (nI 3)) O dX9_set_49 (by decide +kernel) ?_
  refine g_callS (As := [.int w, .int (nI 0), .int (nI 3)]) (wr := [(u0, .inr (9, [.ref u1, .ref u2, .ref u3, .ref u4, .ref u5, .ref u6, .int (nI kn), .ref u7, .int (bB ik), .ref u8, .int (nI ty), .ref u9, .int (nI ta), .int (bB iw), .ref u10, .ref u11]))]) O (kX9_in l D z w (nI 0) (nI 3) ) gX9_set_X9_in rfl rfl rfl 3 (by decide +kernel) (by decide) (by decide) [] [0] rfl (by decide) rfl (by decide) (by decide) rfl rfl (Nat.le_of_ble_eq_true rfl) dX9_set_50 (fun r_5 w_6 hp => ?_)
  obtain ⟨rfl, rfl⟩ := hp
  refine g_eq (st' := [.int (bB (inI w (nI 0) (nI 3)))]) (ws' := [(u0, .inr (9, [.ref u1, .ref u2, .ref u3, .ref u4, .ref u5, .ref u6, .int (nI kn), .ref u7, .int (bB ik), .ref u8, .int (nI ty), .ref u9, .int (nI ta), .int (bB iw), .ref u10, .ref u11]))]) rfl rfl rfl ?_
  refine g_eq (st' := [.int (bB (rgB w 4))]) (by rw [inI_r _ (by decide)]) rfl rfl ?_
  refine g_if_eqB (tgt := 66) O dX9_set_53 (by decide) (fun c_7 => ?_) (fun c_7 => absurd c_7 (by rw [hb]; decide))
  refine g_bipush (x := (-2)) O dX9_set_66 (by decide +kernel) ?_
  exact E 68 _ (-2) _ dX9_set_68 ⟨rfl, rfl⟩

set_option maxHeartbeats 2000000 in
set_option maxRecDepth 100000 in
theorem kX9_set_b2 (l : Launch) (D : va_G) (z : Nat × Nat × Nat) (u0 : Nat) (u1 : Nat) (u2 : Nat) (u3 : Nat) (u4 : Nat) (u5 : Nat) (u6 : Nat) (u7 : Nat) (u8 : Nat) (u9 : Nat) (u10 : Nat) (u11 : Nat) (kn : Nat) (ik : Bool) (ty : Nat) (ta : Nat) (iw : Bool) (w : Nat) (x : Int32) (hw : w < 4) (hb : x < zL w ∨ zM w < x) : CM l yX9_set wsX9_set ({ frames := 1, cells := 0, slots := 0, locals := 22 } : Room) D z [.ref u0, .int (nI w), .int x] [(u0, .inr (9, [.ref u1, .ref u2, .ref u3, .ref u4, .ref u5, .ref u6, .int (nI kn), .ref u7, .int (bB ik), .ref u8, .int (nI ty), .ref u9, .int (nI ta), .int (bB iw), .ref u10, .ref u11]))] (fun r_ w_ => r_ = some (.int (-2)) ∧ w_ = [(u0, .inr (9, [.ref u1, .ref u2, .ref u3, .ref u4, .ref u5, .ref u6, .int (nI kn), .ref u7, .int (bB ik), .ref u8, .int (nI ty), .ref u9, .int (nI ta), .int (bB iw), .ref u10, .ref u11]))]) 0 0 := by
  refine CM_int (own := RX9) (cc := cX9_set) (maxL := 6) (L0 := [(0, .ref u0), (1, .int (nI w)), (2, .int x)]) (by decide) rfl rfl (Nat.le_of_ble_eq_true rfl) rfl (fun X O E => ?_)
  rcases (show w = 0 ∨ w = 1 ∨ w = 2 ∨ w = 3 by omega) with rfl | rfl | rfl | rfl
  ·
    refine g_iload_n O dX9_set_0 1 rfl rfl ?_
    refine g_iconst (x := (nI 1)) O dX9_set_1 (by decide +kernel) ?_
    refine g_icmp_neN (tgt := 9) O (by omega) (by omega) dX9_set_2 (by decide) (fun c_1 => ?_) (fun c_1 => absurd c_1 (by decide))
    refine g_iload_n O dX9_set_9 1 rfl rfl ?_
    refine g_iconst (x := (nI 3)) O dX9_set_10 (by decide +kernel) ?_
    refine g_icmp_neN (tgt := 19) O (by omega) (by omega) dX9_set_11 (by decide) (fun c_2 => ?_) (fun c_2 => absurd c_2 (by decide))
    refine g_iconst (x := (nI 0)) O dX9_set_19 (by decide +kernel) ?_
    refine g_istore_n (L' := [(0, .ref u0), (1, .int (nI 0)), (2, .int x), (3, .int (nI 0))]) O dX9_set_20 rfl (by decide) [1, 2, 3, 0] rfl ?_
    refine g_iload_n O dX9_set_21 1 rfl rfl ?_
    refine g_iconst (x := (nI 1)) O dX9_set_22 (by decide +kernel) ?_
    refine g_icmp_neN (tgt := 32) O (by omega) (by omega) dX9_set_23 (by decide) (fun c_3 => ?_) (fun c_3 => absurd c_3 (by decide))
    refine g_iload_n O dX9_set_32 1 rfl rfl ?_
    refine g_iconst (x := (nI 3)) O dX9_set_33 (by decide +kernel) ?_
    refine g_icmp_neN (tgt := 43) O (by omega) (by omega) dX9_set_34 (by decide) (fun c_4 => ?_) (fun c_4 => absurd c_4 (by decide))
    refine g_bipush (x := (nI 60)) O dX9_set_43 (by decide +kernel) ?_
    refine g_istore (L' := [(0, .ref u0), (1, .int (nI 0)), (2, .int x), (3, .int (nI 0)), (4, .int (nI 60))]) O dX9_set_45 (by decide) [1, 2, 3, 4, 0] rfl ?_
    refine g_iload_n O dX9_set_47 1 rfl rfl ?_
    refine g_iconst (x := (nI 0)) O dX9_set_48 (by decide +kernel) ?_
    refine g_iconst (x := (nI 3)) O dX9_set_49 (by decide +kernel) ?_
    refine g_callS (As := [.int (nI 0), .int (nI 0), .int (nI 3)]) (wr := [(u0, .inr (9, [.ref u1, .ref u2, .ref u3, .ref u4, .ref u5, .ref u6, .int (nI kn), .ref u7, .int (bB ik), .ref u8, .int (nI ty), .ref u9, .int (nI ta), .int (bB iw), .ref u10, .ref u11]))]) O (kX9_in l D z (nI 0) (nI 0) (nI 3) ) gX9_set_X9_in rfl rfl rfl 3 (by decide +kernel) (by decide) (by decide) [] [0] rfl (by decide) rfl (by decide) (by decide) rfl rfl (Nat.le_of_ble_eq_true rfl) dX9_set_50 (fun r_5 w_6 hp => ?_)
    obtain ⟨rfl, rfl⟩ := hp
    refine g_eq (st' := [.int (bB (inI (nI 0) (nI 0) (nI 3)))]) (ws' := [(u0, .inr (9, [.ref u1, .ref u2, .ref u3, .ref u4, .ref u5, .ref u6, .int (nI kn), .ref u7, .int (bB ik), .ref u8, .int (nI ty), .ref u9, .int (nI ta), .int (bB iw), .ref u10, .ref u11]))]) rfl rfl rfl ?_
    refine g_eq (st' := [.int (bB (rgB (nI 0) 4))]) (by rw [inI_r _ (by decide)]) rfl rfl ?_
    refine g_if_eqB (tgt := 66) O dX9_set_53 (by decide) (fun c_7 => absurd c_7 (by decide)) (fun c_7 => ?_)
    refine g_iload_n O dX9_set_56 2 rfl rfl ?_
    refine g_iload_n O dX9_set_57 3 rfl rfl ?_
    refine g_iload O dX9_set_58 4 rfl ?_
    refine g_callS (As := [.int x, .int (nI 0), .int (nI 60)]) (wr := [(u0, .inr (9, [.ref u1, .ref u2, .ref u3, .ref u4, .ref u5, .ref u6, .int (nI kn), .ref u7, .int (bB ik), .ref u8, .int (nI ty), .ref u9, .int (nI ta), .int (bB iw), .ref u10, .ref u11]))]) O (kX9_in l D z x (nI 0) (nI 60) ) gX9_set_X9_in rfl rfl rfl 3 (by decide +kernel) (by decide) (by decide) [] [0] rfl (by decide) rfl (by decide) (by decide) rfl rfl (Nat.le_of_ble_eq_true rfl) dX9_set_60 (fun r_8 w_9 hp => ?_)
    obtain ⟨rfl, rfl⟩ := hp
    refine g_eq (st' := [.int (bB (inI x (nI 0) (nI 60)))]) (ws' := [(u0, .inr (9, [.ref u1, .ref u2, .ref u3, .ref u4, .ref u5, .ref u6, .int (nI kn), .ref u7, .int (bB ik), .ref u8, .int (nI ty), .ref u9, .int (nI ta), .int (bB iw), .ref u10, .ref u11]))]) rfl rfl rfl ?_
    refine g_if_neB (tgt := 69) O dX9_set_63 (by decide) (fun c_10 => absurd c_10 (by rw [inI_f (by exact hb)]; decide)) (fun c_10 => ?_)
    refine g_bipush (x := (-2)) O dX9_set_66 (by decide +kernel) ?_
    exact E 68 _ (-2) _ dX9_set_68 ⟨rfl, rfl⟩
  ·
    refine g_iload_n O dX9_set_0 1 rfl rfl ?_
    refine g_iconst (x := (nI 1)) O dX9_set_1 (by decide +kernel) ?_
    refine g_icmp_neN (tgt := 9) O (by omega) (by omega) dX9_set_2 (by decide) (fun c_11 => absurd c_11 (by decide)) (fun c_11 => ?_)
    refine g_iconst (x := (nI 1)) O dX9_set_5 (by decide +kernel) ?_
    refine g_goto (tgt := 20) O dX9_set_6 (by decide) ?_
    refine g_istore_n (L' := [(0, .ref u0), (1, .int (nI 1)), (2, .int x), (3, .int (nI 1))]) O dX9_set_20 rfl (by decide) [1, 2, 3, 0] rfl ?_
    refine g_iload_n O dX9_set_21 1 rfl rfl ?_
    refine g_iconst (x := (nI 1)) O dX9_set_22 (by decide +kernel) ?_
    refine g_icmp_neN (tgt := 32) O (by omega) (by omega) dX9_set_23 (by decide) (fun c_12 => absurd c_12 (by decide)) (fun c_12 => ?_)
    refine g_sipush (x := (nI 150)) O dX9_set_26 (by decide +kernel) ?_
    refine g_goto (tgt := 45) O dX9_set_29 (by decide) ?_
    refine g_istore (L' := [(0, .ref u0), (1, .int (nI 1)), (2, .int x), (3, .int (nI 1)), (4, .int (nI 150))]) O dX9_set_45 (by decide) [1, 2, 3, 4, 0] rfl ?_
    refine g_iload_n O dX9_set_47 1 rfl rfl ?_
    refine g_iconst (x := (nI 0)) O dX9_set_48 (by decide +kernel) ?_
    refine g_iconst (x := (nI 3)) O dX9_set_49 (by decide +kernel) ?_
    refine g_callS (As := [.int (nI 1), .int (nI 0), .int (nI 3)]) (wr := [(u0, .inr (9, [.ref u1, .ref u2, .ref u3, .ref u4, .ref u5, .ref u6, .int (nI kn), .ref u7, .int (bB ik), .ref u8, .int (nI ty), .ref u9, .int (nI ta), .int (bB iw), .ref u10, .ref u11]))]) O (kX9_in l D z (nI 1) (nI 0) (nI 3) ) gX9_set_X9_in rfl rfl rfl 3 (by decide +kernel) (by decide) (by decide) [] [0] rfl (by decide) rfl (by decide) (by decide) rfl rfl (Nat.le_of_ble_eq_true rfl) dX9_set_50 (fun r_13 w_14 hp => ?_)
    obtain ⟨rfl, rfl⟩ := hp
    refine g_eq (st' := [.int (bB (inI (nI 1) (nI 0) (nI 3)))]) (ws' := [(u0, .inr (9, [.ref u1, .ref u2, .ref u3, .ref u4, .ref u5, .ref u6, .int (nI kn), .ref u7, .int (bB ik), .ref u8, .int (nI ty), .ref u9, .int (nI ta), .int (bB iw), .ref u10, .ref u11]))]) rfl rfl rfl ?_
    refine g_eq (st' := [.int (bB (rgB (nI 1) 4))]) (by rw [inI_r _ (by decide)]) rfl rfl ?_
    refine g_if_eqB (tgt := 66) O dX9_set_53 (by decide) (fun c_15 => absurd c_15 (by decide)) (fun c_15 => ?_)
    refine g_iload_n O dX9_set_56 2 rfl rfl ?_
    refine g_iload_n O dX9_set_57 3 rfl rfl ?_
    refine g_iload O dX9_set_58 4 rfl ?_
    refine g_callS (As := [.int x, .int (nI 1), .int (nI 150)]) (wr := [(u0, .inr (9, [.ref u1, .ref u2, .ref u3, .ref u4, .ref u5, .ref u6, .int (nI kn), .ref u7, .int (bB ik), .ref u8, .int (nI ty), .ref u9, .int (nI ta), .int (bB iw), .ref u10, .ref u11]))]) O (kX9_in l D z x (nI 1) (nI 150) ) gX9_set_X9_in rfl rfl rfl 3 (by decide +kernel) (by decide) (by decide) [] [0] rfl (by decide) rfl (by decide) (by decide) rfl rfl (Nat.le_of_ble_eq_true rfl) dX9_set_60 (fun r_16 w_17 hp => ?_)
    obtain ⟨rfl, rfl⟩ := hp
    refine g_eq (st' := [.int (bB (inI x (nI 1) (nI 150)))]) (ws' := [(u0, .inr (9, [.ref u1, .ref u2, .ref u3, .ref u4, .ref u5, .ref u6, .int (nI kn), .ref u7, .int (bB ik), .ref u8, .int (nI ty), .ref u9, .int (nI ta), .int (bB iw), .ref u10, .ref u11]))]) rfl rfl rfl ?_
    refine g_if_neB (tgt := 69) O dX9_set_63 (by decide) (fun c_18 => absurd c_18 (by rw [inI_f (by exact hb)]; decide)) (fun c_18 => ?_)
    refine g_bipush (x := (-2)) O dX9_set_66 (by decide +kernel) ?_
    exact E 68 _ (-2) _ dX9_set_68 ⟨rfl, rfl⟩
  ·
    refine g_iload_n O dX9_set_0 1 rfl rfl ?_
    refine g_iconst (x := (nI 1)) O dX9_set_1 (by decide +kernel) ?_
    refine g_icmp_neN (tgt := 9) O (by omega) (by omega) dX9_set_2 (by decide) (fun c_19 => ?_) (fun c_19 => absurd c_19 (by decide))
    refine g_iload_n O dX9_set_9 1 rfl rfl ?_
    refine g_iconst (x := (nI 3)) O dX9_set_10 (by decide +kernel) ?_
    refine g_icmp_neN (tgt := 19) O (by omega) (by omega) dX9_set_11 (by decide) (fun c_20 => ?_) (fun c_20 => absurd c_20 (by decide))
    refine g_iconst (x := (nI 0)) O dX9_set_19 (by decide +kernel) ?_
    refine g_istore_n (L' := [(0, .ref u0), (1, .int (nI 2)), (2, .int x), (3, .int (nI 0))]) O dX9_set_20 rfl (by decide) [1, 2, 3, 0] rfl ?_
    refine g_iload_n O dX9_set_21 1 rfl rfl ?_
    refine g_iconst (x := (nI 1)) O dX9_set_22 (by decide +kernel) ?_
    refine g_icmp_neN (tgt := 32) O (by omega) (by omega) dX9_set_23 (by decide) (fun c_21 => ?_) (fun c_21 => absurd c_21 (by decide))
    refine g_iload_n O dX9_set_32 1 rfl rfl ?_
    refine g_iconst (x := (nI 3)) O dX9_set_33 (by decide +kernel) ?_
    refine g_icmp_neN (tgt := 43) O (by omega) (by omega) dX9_set_34 (by decide) (fun c_22 => ?_) (fun c_22 => absurd c_22 (by decide))
    refine g_bipush (x := (nI 60)) O dX9_set_43 (by decide +kernel) ?_
    refine g_istore (L' := [(0, .ref u0), (1, .int (nI 2)), (2, .int x), (3, .int (nI 0)), (4, .int (nI 60))]) O dX9_set_45 (by decide) [1, 2, 3, 4, 0] rfl ?_
    refine g_iload_n O dX9_set_47 1 rfl rfl ?_
    refine g_iconst (x := (nI 0)) O dX9_set_48 (by decide +kernel) ?_
    refine g_iconst (x := (nI 3)) O dX9_set_49 (by decide +kernel) ?_
    refine g_callS (As := [.int (nI 2), .int (nI 0), .int (nI 3)]) (wr := [(u0, .inr (9, [.ref u1, .ref u2, .ref u3, .ref u4, .ref u5, .ref u6, .int (nI kn), .ref u7, .int (bB ik), .ref u8, .int (nI ty), .ref u9, .int (nI ta), .int (bB iw), .ref u10, .ref u11]))]) O (kX9_in l D z (nI 2) (nI 0) (nI 3) ) gX9_set_X9_in rfl rfl rfl 3 (by decide +kernel) (by decide) (by decide) [] [0] rfl (by decide) rfl (by decide) (by decide) rfl rfl (Nat.le_of_ble_eq_true rfl) dX9_set_50 (fun r_23 w_24 hp => ?_)
    obtain ⟨rfl, rfl⟩ := hp
    refine g_eq (st' := [.int (bB (inI (nI 2) (nI 0) (nI 3)))]) (ws' := [(u0, .inr (9, [.ref u1, .ref u2, .ref u3, .ref u4, .ref u5, .ref u6, .int (nI kn), .ref u7, .int (bB ik), .ref u8, .int (nI ty), .ref u9, .int (nI ta), .int (bB iw), .ref u10, .ref u11]))]) rfl rfl rfl ?_
    refine g_eq (st' := [.int (bB (rgB (nI 2) 4))]) (by rw [inI_r _ (by decide)]) rfl rfl ?_
    refine g_if_eqB (tgt := 66) O dX9_set_53 (by decide) (fun c_25 => absurd c_25 (by decide)) (fun c_25 => ?_)
    refine g_iload_n O dX9_set_56 2 rfl rfl ?_
    refine g_iload_n O dX9_set_57 3 rfl rfl ?_
    refine g_iload O dX9_set_58 4 rfl ?_
    refine g_callS (As := [.int x, .int (nI 0), .int (nI 60)]) (wr := [(u0, .inr (9, [.ref u1, .ref u2, .ref u3, .ref u4, .ref u5, .ref u6, .int (nI kn), .ref u7, .int (bB ik), .ref u8, .int (nI ty), .ref u9, .int (nI ta), .int (bB iw), .ref u10, .ref u11]))]) O (kX9_in l D z x (nI 0) (nI 60) ) gX9_set_X9_in rfl rfl rfl 3 (by decide +kernel) (by decide) (by decide) [] [0] rfl (by decide) rfl (by decide) (by decide) rfl rfl (Nat.le_of_ble_eq_true rfl) dX9_set_60 (fun r_26 w_27 hp => ?_)
    obtain ⟨rfl, rfl⟩ := hp
    refine g_eq (st' := [.int (bB (inI x (nI 0) (nI 60)))]) (ws' := [(u0, .inr (9, [.ref u1, .ref u2, .ref u3, .ref u4, .ref u5, .ref u6, .int (nI kn), .ref u7, .int (bB ik), .ref u8, .int (nI ty), .ref u9, .int (nI ta), .int (bB iw), .ref u10, .ref u11]))]) rfl rfl rfl ?_
    refine g_if_neB (tgt := 69) O dX9_set_63 (by decide) (fun c_28 => absurd c_28 (by rw [inI_f (by exact hb)]; decide)) (fun c_28 => ?_)
    refine g_bipush (x := (-2)) O dX9_set_66 (by decide +kernel) ?_
    exact E 68 _ (-2) _ dX9_set_68 ⟨rfl, rfl⟩
  ·
    refine g_iload_n O dX9_set_0 1 rfl rfl ?_
    refine g_iconst (x := (nI 1)) O dX9_set_1 (by decide +kernel) ?_
    refine g_icmp_neN (tgt := 9) O (by omega) (by omega) dX9_set_2 (by decide) (fun c_29 => ?_) (fun c_29 => absurd c_29 (by decide))
    refine g_iload_n O dX9_set_9 1 rfl rfl ?_
    refine g_iconst (x := (nI 3)) O dX9_set_10 (by decide +kernel) ?_
    refine g_icmp_neN (tgt := 19) O (by omega) (by omega) dX9_set_11 (by decide) (fun c_30 => absurd c_30 (by decide)) (fun c_30 => ?_)
    refine g_bipush (x := (nI 50)) O dX9_set_14 (by decide +kernel) ?_
    refine g_goto (tgt := 20) O dX9_set_16 (by decide) ?_
    refine g_istore_n (L' := [(0, .ref u0), (1, .int (nI 3)), (2, .int x), (3, .int (nI 50))]) O dX9_set_20 rfl (by decide) [1, 2, 3, 0] rfl ?_
    refine g_iload_n O dX9_set_21 1 rfl rfl ?_
    refine g_iconst (x := (nI 1)) O dX9_set_22 (by decide +kernel) ?_
    refine g_icmp_neN (tgt := 32) O (by omega) (by omega) dX9_set_23 (by decide) (fun c_31 => ?_) (fun c_31 => absurd c_31 (by decide))
    refine g_iload_n O dX9_set_32 1 rfl rfl ?_
    refine g_iconst (x := (nI 3)) O dX9_set_33 (by decide +kernel) ?_
    refine g_icmp_neN (tgt := 43) O (by omega) (by omega) dX9_set_34 (by decide) (fun c_32 => absurd c_32 (by decide)) (fun c_32 => ?_)
    refine g_sipush (x := (nI 201)) O dX9_set_37 (by decide +kernel) ?_
    refine g_goto (tgt := 45) O dX9_set_40 (by decide) ?_
    refine g_istore (L' := [(0, .ref u0), (1, .int (nI 3)), (2, .int x), (3, .int (nI 50)), (4, .int (nI 201))]) O dX9_set_45 (by decide) [1, 2, 3, 4, 0] rfl ?_
    refine g_iload_n O dX9_set_47 1 rfl rfl ?_
    refine g_iconst (x := (nI 0)) O dX9_set_48 (by decide +kernel) ?_
    refine g_iconst (x := (nI 3)) O dX9_set_49 (by decide +kernel) ?_
    refine g_callS (As := [.int (nI 3), .int (nI 0), .int (nI 3)]) (wr := [(u0, .inr (9, [.ref u1, .ref u2, .ref u3, .ref u4, .ref u5, .ref u6, .int (nI kn), .ref u7, .int (bB ik), .ref u8, .int (nI ty), .ref u9, .int (nI ta), .int (bB iw), .ref u10, .ref u11]))]) O (kX9_in l D z (nI 3) (nI 0) (nI 3) ) gX9_set_X9_in rfl rfl rfl 3 (by decide +kernel) (by decide) (by decide) [] [0] rfl (by decide) rfl (by decide) (by decide) rfl rfl (Nat.le_of_ble_eq_true rfl) dX9_set_50 (fun r_33 w_34 hp => ?_)
    obtain ⟨rfl, rfl⟩ := hp
    refine g_eq (st' := [.int (bB (inI (nI 3) (nI 0) (nI 3)))]) (ws' := [(u0, .inr (9, [.ref u1, .ref u2, .ref u3, .ref u4, .ref u5, .ref u6, .int (nI kn), .ref u7, .int (bB ik), .ref u8, .int (nI ty), .ref u9, .int (nI ta), .int (bB iw), .ref u10, .ref u11]))]) rfl rfl rfl ?_
    refine g_eq (st' := [.int (bB (rgB (nI 3) 4))]) (by rw [inI_r _ (by decide)]) rfl rfl ?_
    refine g_if_eqB (tgt := 66) O dX9_set_53 (by decide) (fun c_35 => absurd c_35 (by decide)) (fun c_35 => ?_)
    refine g_iload_n O dX9_set_56 2 rfl rfl ?_
    refine g_iload_n O dX9_set_57 3 rfl rfl ?_
    refine g_iload O dX9_set_58 4 rfl ?_
    refine g_callS (As := [.int x, .int (nI 50), .int (nI 201)]) (wr := [(u0, .inr (9, [.ref u1, .ref u2, .ref u3, .ref u4, .ref u5, .ref u6, .int (nI kn), .ref u7, .int (bB ik), .ref u8, .int (nI ty), .ref u9, .int (nI ta), .int (bB iw), .ref u10, .ref u11]))]) O (kX9_in l D z x (nI 50) (nI 201) ) gX9_set_X9_in rfl rfl rfl 3 (by decide +kernel) (by decide) (by decide) [] [0] rfl (by decide) rfl (by decide) (by decide) rfl rfl (Nat.le_of_ble_eq_true rfl) dX9_set_60 (fun r_36 w_37 hp => ?_)
    obtain ⟨rfl, rfl⟩ := hp
    refine g_eq (st' := [.int (bB (inI x (nI 50) (nI 201)))]) (ws' := [(u0, .inr (9, [.ref u1, .ref u2, .ref u3, .ref u4, .ref u5, .ref u6, .int (nI kn), .ref u7, .int (bB ik), .ref u8, .int (nI ty), .ref u9, .int (nI ta), .int (bB iw), .ref u10, .ref u11]))]) rfl rfl rfl ?_
    refine g_if_neB (tgt := 69) O dX9_set_63 (by decide) (fun c_38 => absurd c_38 (by rw [inI_f (by exact hb)]; decide)) (fun c_38 => ?_)
    refine g_bipush (x := (-2)) O dX9_set_66 (by decide +kernel) ?_
    exact E 68 _ (-2) _ dX9_set_68 ⟨rfl, rfl⟩
