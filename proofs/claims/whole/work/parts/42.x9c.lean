theorem hiX9_strikeAt_X9 : ∀ w ∈ wsX90, w ∈ wsX9_strikeAt := by decide +kernel
set_option maxHeartbeats 4000000 in
set_option maxRecDepth 100000 in
theorem kX9_strikeAt (l : Launch) (D : va_G) (z : Nat × Nat × Nat) (u0 : Nat) (u1 : Nat) (u2 : Nat) (u3 : Nat) (u4 : Nat) (u5 : Nat) (u6 : Nat) (u7 : Nat) (u8 : Nat) (u9 : Nat) (u10 : Nat) (u11 : Nat) (kn : Nat) (ik : Bool) (ty : Nat) (ta : Nat) (iw : Bool) (M : Nat → Int32) (s : SV) (d : Nat) (hM : RM M s) (hd : d < sv_ps s) (hps : sv_ps s ≤ 16) (hnc : sv_nc s ≤ 4) : CM l yX9_strikeAt wsX9_strikeAt ({ frames := 0, cells := 0, slots := 0, locals := 0 } : Room) D z [.ref u0, .int (nI d)] [(u0, .inr (9, [.ref u1, .ref u2, .ref u3, .ref u4, .ref u5, .ref u6, .int (nI kn), .ref u7, .int (bB ik), .ref u8, .int (nI ty), .ref u9, .int (nI ta), .int (bB iw), .ref u10, .ref u11])), (u5, .inl ((TY D)[0].1, 208, .inl M))] (fun r_ w_ => ∃ (M9 : Nat → Int32), (RM M9 (rmS s d)) ∧ r_ = none ∧ w_ = [(u0, .inr (9, [.ref u1, .ref u2, .ref u3, .ref u4, .ref u5, .ref u6, .int (nI kn), .ref u7, .int (bB ik), .ref u8, .int (nI ty), .ref u9, .int (nI ta), .int (bB iw), .ref u10, .ref u11])), (u5, .inl ((TY D)[0].1, 208, .inl M9))]) 0 0 := by
  refine CM_void (own := RX9) (cc := cX9_strikeAt) (maxL := 3) (L0 := [(0, .ref u0), (1, .int (nI d))]) (by decide) rfl rfl (Nat.le_of_ble_eq_true rfl) rfl (fun X O E => ?_)
  refine g_aload_n O dX9_strikeAt_0 0 rfl rfl ?_
  refine g_get O hiX9_strikeAt_X9 0 rfl rfl 4 (by decide) (by decide +kernel) rfl dX9_strikeAt_1 ?_
  refine g_sipush (x := (nI 159)) O dX9_strikeAt_4 (by decide +kernel) ?_
  refine g_dup2 O dX9_strikeAt_7 rfl rfl ?_
  refine g_ialdN O 1 rfl (by omega) (by omega) dX9_strikeAt_8 ?_
  refine g_eq (st' := [.int (nI (sv_ps s)), .int (nI 159), .ref u5]) (by rw [RM_ps hM]) rfl rfl ?_
  refine g_iconst (x := (nI 1)) O dX9_strikeAt_9 (by decide +kernel) ?_
  refine g_isubN O (by omega) dX9_strikeAt_10 ?_
  refine g_iastN (f' := (upd M 159 (nI ((sv_ps s) - 1)))) (ws' := [(u0, .inr (9, [.ref u1, .ref u2, .ref u3, .ref u4, .ref u5, .ref u6, .int (nI kn), .ref u7, .int (bB ik), .ref u8, .int (nI ty), .ref u9, .int (nI ta), .int (bB iw), .ref u10, .ref u11])), (u5, .inl ((TY D)[0].1, 208, .inl (upd M 159 (nI ((sv_ps s) - 1)))))]) O 1 rfl (by omega) (by omega) dX9_strikeAt_11 rfl rfl ?_
  obtain ⟨M1, eM1⟩ : ∃ f, f = upd M 159 (nI ((sv_ps s) - 1)) := ⟨_, rfl⟩
  refine g_eq (ws' := [(u0, .inr (9, [.ref u1, .ref u2, .ref u3, .ref u4, .ref u5, .ref u6, .int (nI kn), .ref u7, .int (bB ik), .ref u8, .int (nI ty), .ref u9, .int (nI ta), .int (bB iw), .ref u10, .ref u11])), (u5, .inl ((TY D)[0].1, 208, .inl M1))]) rfl rfl (by rw [eM1]) ?_
  have h159 : M1 159 = nI (sv_ps s - 1) := by rw [eM1]; exact pk_us
  refine g_sipush (x := (nI 160)) O dX9_strikeAt_12 (by decide +kernel) ?_
  refine g_iconst (x := (nI 3)) O dX9_strikeAt_15 (by decide +kernel) ?_
  refine g_iload_n O dX9_strikeAt_16 1 rfl rfl ?_
  refine g_imulN O dX9_strikeAt_17 ?_
  refine g_iaddN O dX9_strikeAt_18 ?_
  refine g_istore_n (L' := [(0, .ref u0), (1, .int (nI d)), (2, .int (nI (160 + (3 * d))))]) O dX9_strikeAt_19 rfl (by decide) [1, 2, 0] rfl ?_
  have J20 : ∀ (n_ : Nat), ∀ (i_ : Nat) (F_ : Nat → Int32) (hi_ : i_ ≤ 3 * (sv_ps s - 1 - d)) (hF : F_ = shf M1 (160 + 3 * d) 3 i_) (h159 : F_ 159 = nI (sv_ps s - 1)), 48 - i_ < n_ → G X 0 0 20 [(0, .ref u0), (1, .int (nI d)), (2, .int (nI (160 + 3 * d + i_)))] [] [(u0, .inr (9, [.ref u1, .ref u2, .ref u3, .ref u4, .ref u5, .ref u6, .int (nI kn), .ref u7, .int (bB ik), .ref u8, .int (nI ty), .ref u9, .int (nI ta), .int (bB iw), .ref u10, .ref u11])), (u5, .inl ((TY D)[0].1, 208, .inl F_))] := by
    intro n_
    induction n_ with
    | zero => intro i_ F_ hi_ hF h159 hm_; exact absurd hm_ (Nat.not_lt_zero _)
    | succ n_ ih_ =>
      intro i_ F_ hi_ hF h159 hm_
      refine g_iload_n O dX9_strikeAt_20 2 rfl rfl ?_
      refine g_sipush (x := (nI 160)) O dX9_strikeAt_21 (by decide +kernel) ?_
      refine g_iconst (x := (nI 3)) O dX9_strikeAt_24 (by decide +kernel) ?_
      refine g_aload_n O dX9_strikeAt_25 0 rfl rfl ?_
      refine g_get O hiX9_strikeAt_X9 0 rfl rfl 4 (by decide) (by decide +kernel) rfl dX9_strikeAt_26 ?_
      refine g_sipush (x := (nI 159)) O dX9_strikeAt_29 (by decide +kernel) ?_
      refine g_ialdN O 1 rfl (by omega) (by omega) dX9_strikeAt_32 ?_
      refine g_eq (st' := [.int (nI (sv_ps s - 1)), .int (nI 3), .int (nI 160), .int (nI (160 + 3 * d + i_))]) (by rw [h159]) rfl rfl ?_
      refine g_imulN O dX9_strikeAt_33 ?_
      refine g_iaddN O dX9_strikeAt_34 ?_
      refine g_icmp_geN (tgt := 58) O (by omega) (by omega) dX9_strikeAt_35 (by decide) (fun c_1 => ?_) (fun c_1 => ?_)
      ·
        obtain rfl : i_ = 3 * (sv_ps s - 1 - d) := by omega
        exact E 58 _ _ dX9_strikeAt_58 (⟨_, (by rw [hF, eM1]; exact RM_rm hM hd hps hnc), rfl, rfl⟩)
      ·
        refine g_aload_n O dX9_strikeAt_38 0 rfl rfl ?_
        refine g_get O hiX9_strikeAt_X9 0 rfl rfl 4 (by decide) (by decide +kernel) rfl dX9_strikeAt_39 ?_
        refine g_iload_n O dX9_strikeAt_42 2 rfl rfl ?_
        refine g_aload_n O dX9_strikeAt_43 0 rfl rfl ?_
        refine g_get O hiX9_strikeAt_X9 0 rfl rfl 4 (by decide) (by decide +kernel) rfl dX9_strikeAt_44 ?_
        refine g_iload_n O dX9_strikeAt_47 2 rfl rfl ?_
        refine g_iconst (x := (nI 3)) O dX9_strikeAt_48 (by decide +kernel) ?_
        refine g_iaddN O dX9_strikeAt_49 ?_
        refine g_ialdN O 1 rfl (by omega) (by omega) dX9_strikeAt_50 ?_
        refine g_iastN (f' := (upd F_ (160 + 3 * d + i_) (F_ ((160 + 3 * d + i_) + 3)))) (ws' := [(u0, .inr (9, [.ref u1, .ref u2, .ref u3, .ref u4, .ref u5, .ref u6, .int (nI kn), .ref u7, .int (bB ik), .ref u8, .int (nI ty), .ref u9, .int (nI ta), .int (bB iw), .ref u10, .ref u11])), (u5, .inl ((TY D)[0].1, 208, .inl (upd F_ (160 + 3 * d + i_) (F_ ((160 + 3 * d + i_) + 3)))))]) O 1 rfl (by omega) (by omega) dX9_strikeAt_51 rfl rfl ?_
        refine g_iincN (L' := [(0, .ref u0), (1, .int (nI d)), (2, .int (nI (160 + 3 * d + i_ + 1)))]) O dX9_strikeAt_52 2 rfl (by decide) [1, 2, 0] rfl ?_
        refine g_goto (tgt := 20) O dX9_strikeAt_55 (by decide) ?_
        exact ih_ (i_ + 1) _ (by first | assumption | omega | rfl) (by rw [hF]; exact shf_s M1 (160 + 3 * d) 3 i_ (by omega)) (by rw [pk_un (by omega)]; exact h159) (by omega)
  exact J20 _ 0 M1 (Nat.zero_le _) ((shf_0 _ _ _).symm) (by first | assumption | omega | rfl) (Nat.lt_succ_self _)

set_option maxHeartbeats 4000000 in
set_option maxRecDepth 100000 in
theorem kX9_strike_b1 (l : Launch) (D : va_G) (z : Nat × Nat × Nat) (u0 : Nat) (u1 : Nat) (u2 : Nat) (u3 : Nat) (u4 : Nat) (u5 : Nat) (u6 : Nat) (u7 : Nat) (u8 : Nat) (u9 : Nat) (u10 : Nat) (u11 : Nat) (kn : Nat) (ik : Bool) (ty : Nat) (ta : Nat) (iw : Bool) (x : Int32) (hb : rgB x 4 = false) : CM l yX9_strike wsX9_strike ({ frames := 1, cells := 0, slots := 0, locals := 22 } : Room) D z [.ref u0, .int x] [(u0, .inr (9, [.ref u1, .ref u2, .ref u3, .ref u4, .ref u5, .ref u6, .int (nI kn), .ref u7, .int (bB ik), .ref u8, .int (nI ty), .ref u9, .int (nI ta), .int (bB iw), .ref u10, .ref u11]))] (fun r_ w_ => r_ = some (.int (-1)) ∧ w_ = [(u0, .inr (9, [.ref u1, .ref u2, .ref u3, .ref u4, .ref u5, .ref u6, .int (nI kn), .ref u7, .int (bB ik), .ref u8, .int (nI ty), .ref u9, .int (nI ta), .int (bB iw), .ref u10, .ref u11]))]) 0 0 := by
  refine CM_int (own := RX9) (cc := cX9_strike) (maxL := 4) (L0 := [(0, .ref u0), (1, .int x)]) (by decide) rfl rfl (Nat.le_of_ble_eq_true rfl) rfl (fun X O E => ?_)
  refine g_iload_n O dX9_strike_0 1 rfl rfl ?_
  refine g_iconst (x := (nI 0)) O dX9_strike_1 (by decide +kernel) ?_
  refine g_iconst (x := (nI 3)) O dX9_strike_2 (by decide +kernel) ?_
  refine g_callS (As := [.int x, .int (nI 0), .int (nI 3)]) (wr := [(u0, .inr (9, [.ref u1, .ref u2, .ref u3, .ref u4, .ref u5, .ref u6, .int (nI kn), .ref u7, .int (bB ik), .ref u8, .int (nI ty), .ref u9, .int (nI ta), .int (bB iw), .ref u10, .ref u11]))]) O (kX9_in l D z x (nI 0) (nI 3) ) gX9_strike_X9_in rfl rfl rfl 3 (by decide +kernel) (by decide) (by decide) [] [0] rfl (by decide) rfl (by decide) (by decide) rfl rfl (Nat.le_of_ble_eq_true rfl) dX9_strike_3 (fun r_1 w_2 hp => ?_)
  obtain ⟨rfl, rfl⟩ := hp
  refine g_eq (st' := [.int (bB (inI x (nI 0) (nI 3)))]) (ws' := [(u0, .inr (9, [.ref u1, .ref u2, .ref u3, .ref u4, .ref u5, .ref u6, .int (nI kn), .ref u7, .int (bB ik), .ref u8, .int (nI ty), .ref u9, .int (nI ta), .int (bB iw), .ref u10, .ref u11]))]) rfl rfl rfl ?_
  refine g_if_neB (tgt := 11) O dX9_strike_6 (by decide) (fun c_3 => absurd c_3 (by rw [inI_r _ (by decide), hb]; decide)) (fun c_3 => ?_)
  refine g_iconst (x := (-1)) O dX9_strike_9 (by decide +kernel) ?_
  exact E 10 _ (-1) _ dX9_strike_10 ⟨rfl, rfl⟩

theorem hiX9_strike_X9 : ∀ w ∈ wsX90, w ∈ wsX9_strike := by decide +kernel
set_option maxHeartbeats 4000000 in
set_option maxRecDepth 100000 in
theorem kX9_strike_b2 (l : Launch) (D : va_G) (z : Nat × Nat × Nat) (u0 : Nat) (u1 : Nat) (u2 : Nat) (u3 : Nat) (u4 : Nat) (u5 : Nat) (u6 : Nat) (u7 : Nat) (u8 : Nat) (u9 : Nat) (u10 : Nat) (u11 : Nat) (kn : Nat) (ik : Bool) (ty : Nat) (ta : Nat) (iw : Bool) (M : Nat → Int32) (s : SV) (x : Nat) (hx : x < 4) (hM : RM M s) (hps : sv_ps s ≤ 16) (hpc : ∀ j, j < sv_ps s → sv_fs s j < 4 ∧ sv_fa s j < 12 ∧ 1 ≤ sv_fk s j ∧ sv_fk s j ≤ 20) (hb : cntB (isB (sv_fs s) x) (sv_ps s) = 0) : CM l yX9_strike wsX9_strike ({ frames := 1, cells := 0, slots := 0, locals := 22 } : Room) D z [.ref u0, .int (nI x)] [(u0, .inr (9, [.ref u1, .ref u2, .ref u3, .ref u4, .ref u5, .ref u6, .int (nI kn), .ref u7, .int (bB ik), .ref u8, .int (nI ty), .ref u9, .int (nI ta), .int (bB iw), .ref u10, .ref u11])), (u5, .inl ((TY D)[0].1, 208, .inl M))] (fun r_ w_ => r_ = some (.int (-5)) ∧ w_ = [(u0, .inr (9, [.ref u1, .ref u2, .ref u3, .ref u4, .ref u5, .ref u6, .int (nI kn), .ref u7, .int (bB ik), .ref u8, .int (nI ty), .ref u9, .int (nI ta), .int (bB iw), .ref u10, .ref u11])), (u5, .inl ((TY D)[0].1, 208, .inl M))]) 0 0 := by
  refine CM_int (own := RX9) (cc := cX9_strike) (maxL := 4) (L0 := [(0, .ref u0), (1, .int (nI x))]) (by decide) rfl rfl (Nat.le_of_ble_eq_true rfl) rfl (fun X O E => ?_)
  refine g_iload_n O dX9_strike_0 1 rfl rfl ?_
  refine g_iconst (x := (nI 0)) O dX9_strike_1 (by decide +kernel) ?_
  refine g_iconst (x := (nI 3)) O dX9_strike_2 (by decide +kernel) ?_
  refine g_callS (As := [.int (nI x), .int (nI 0), .int (nI 3)]) (wr := [(u0, .inr (9, [.ref u1, .ref u2, .ref u3, .ref u4, .ref u5, .ref u6, .int (nI kn), .ref u7, .int (bB ik), .ref u8, .int (nI ty), .ref u9, .int (nI ta), .int (bB iw), .ref u10, .ref u11])), (u5, .inl ((TY D)[0].1, 208, .inl M))]) O (kX9_in l D z (nI x) (nI 0) (nI 3) ) gX9_strike_X9_in rfl rfl rfl 3 (by decide +kernel) (by decide) (by decide) [] [0, 1] rfl (by decide) rfl (by decide) (by decide) rfl rfl (Nat.le_of_ble_eq_true rfl) dX9_strike_3 (fun r_1 w_2 hp => ?_)
  obtain ⟨rfl, rfl⟩ := hp
  refine g_eq (st' := [.int (bB (inI (nI x) (nI 0) (nI 3)))]) (ws' := [(u0, .inr (9, [.ref u1, .ref u2, .ref u3, .ref u4, .ref u5, .ref u6, .int (nI kn), .ref u7, .int (bB ik), .ref u8, .int (nI ty), .ref u9, .int (nI ta), .int (bB iw), .ref u10, .ref u11])), (u5, .inl ((TY D)[0].1, 208, .inl M))]) rfl rfl rfl ?_
  refine g_if_neB (tgt := 11) O dX9_strike_6 (by decide) (fun c_3 => ?_) (fun c_3 => absurd c_3 (by rw [inI_r _ (by decide), rgB_t hx (by decide)]; decide))
  refine g_iconst (x := (nI 0)) O dX9_strike_11 (by decide +kernel) ?_
  refine g_istore_n (L' := [(0, .ref u0), (1, .int (nI x)), (2, .int (nI 0))]) O dX9_strike_12 rfl (by decide) [1, 2, 0] rfl ?_
  refine g_iconst (x := (nI 0)) O dX9_strike_13 (by decide +kernel) ?_
  refine g_istore_n (L' := [(0, .ref u0), (1, .int (nI x)), (2, .int (nI 0)), (3, .int (nI 0))]) O dX9_strike_14 rfl (by decide) [1, 2, 3, 0] rfl ?_
  have J15 : ∀ (n_ : Nat), ∀ (i_ : Nat) (hi_ : i_ ≤ sv_ps s), sv_ps s - i_ < n_ → G X 0 0 15 [(0, .ref u0), (1, .int (nI x)), (2, .int (nI (cntB (isB (sv_fs s) x) i_))), (3, .int (nI i_))] [] [(u0, .inr (9, [.ref u1, .ref u2, .ref u3, .ref u4, .ref u5, .ref u6, .int (nI kn), .ref u7, .int (bB ik), .ref u8, .int (nI ty), .ref u9, .int (nI ta), .int (bB iw), .ref u10, .ref u11])), (u5, .inl ((TY D)[0].1, 208, .inl M))] := by
    intro n_
    induction n_ with
    | zero => intro i_ hi_ hm_; exact absurd hm_ (Nat.not_lt_zero _)
    | succ n_ ih_ =>
      intro i_ hi_ hm_
      have hcl := cntB_le (isB (sv_fs s) x) i_
      refine g_iload_n O dX9_strike_15 3 rfl rfl ?_
      refine g_aload_n O dX9_strike_16 0 rfl rfl ?_
      refine g_get O hiX9_strike_X9 0 rfl rfl 4 (by decide) (by decide +kernel) rfl dX9_strike_17 ?_
      refine g_sipush (x := (nI 159)) O dX9_strike_20 (by decide +kernel) ?_
      refine g_ialdN O 1 rfl (by omega) (by omega) dX9_strike_23 ?_
      refine g_eq (st' := [.int (nI (sv_ps s)), .int (nI i_)]) (by rw [RM_ps hM]) rfl rfl ?_
      refine g_icmp_geN (tgt := 57) O (by omega) (by omega) dX9_strike_24 (by decide) (fun c_4 => ?_) (fun c_4 => ?_)
      ·
        obtain rfl : i_ = sv_ps s := by omega
        refine g_iload_n O dX9_strike_57 2 rfl rfl ?_
        refine g_if_neN (tgt := 64) O (by omega) dX9_strike_58 (by decide) (fun c_5 => (by exfalso; omega)) (fun c_5 => ?_)
        refine g_bipush (x := (-5)) O dX9_strike_61 (by decide +kernel) ?_
        exact E 63 _ (-5) _ dX9_strike_63 ⟨rfl, rfl⟩
      ·
        have hpi := hpc i_ c_4
        refine g_iload_n O dX9_strike_27 2 rfl rfl ?_
        refine g_aload_n O dX9_strike_28 0 rfl rfl ?_
        refine g_get O hiX9_strike_X9 0 rfl rfl 4 (by decide) (by decide +kernel) rfl dX9_strike_29 ?_
        refine g_sipush (x := (nI 160)) O dX9_strike_32 (by decide +kernel) ?_
        refine g_iconst (x := (nI 3)) O dX9_strike_35 (by decide +kernel) ?_
        refine g_iload_n O dX9_strike_36 3 rfl rfl ?_
        refine g_imulN O dX9_strike_37 ?_
        refine g_iaddN O dX9_strike_38 ?_
        refine g_ialdN O 1 rfl (by omega) (by omega) dX9_strike_39 ?_
        refine g_eq (st' := [.int (nI (sv_fs s i_)), .int (nI (cntB (isB (sv_fs s) x) i_))]) (by rw [(RM_b hM (show i_ < sv_ps s by omega)).1]) rfl rfl ?_
        refine g_iload_n O dX9_strike_40 1 rfl rfl ?_
        refine g_icmp_neN (tgt := 48) O (by omega) (by omega) dX9_strike_41 (by decide) (fun c_6 => ?_) (fun c_6 => ?_)
        ·
          have hq : cntB (isB (sv_fs s) x) (i_ + 1) = cntB (isB (sv_fs s) x) i_ := cntB_f (by simp only [isB]; simp [c_6])
          refine g_iconst (x := (nI 0)) O dX9_strike_48 (by decide +kernel) ?_
          refine g_iaddN O dX9_strike_49 ?_
          refine g_eq (st' := [.int (nI (cntB (isB (sv_fs s) x) (i_ + 1)))]) (by rw [hq]) rfl rfl ?_
          refine g_istore_n (L' := [(0, .ref u0), (1, .int (nI x)), (2, .int (nI (cntB (isB (sv_fs s) x) (i_ + 1)))), (3, .int (nI i_))]) O dX9_strike_50 rfl (by decide) [1, 2, 0, 3] rfl ?_
          refine g_iincN (L' := [(0, .ref u0), (1, .int (nI x)), (2, .int (nI (cntB (isB (sv_fs s) x) (i_ + 1)))), (3, .int (nI (i_ + 1)))]) O dX9_strike_51 3 rfl (by decide) [1, 2, 3, 0] rfl ?_
          refine g_goto (tgt := 15) O dX9_strike_54 (by decide) ?_
          exact ih_ (i_ + 1) (by first | assumption | omega | rfl) (by omega)
        ·
          have hq : cntB (isB (sv_fs s) x) (i_ + 1) = cntB (isB (sv_fs s) x) i_ + 1 := cntB_t (by simp only [isB]; have he := Decidable.not_not.mp c_6; simp [he])
          refine g_iconst (x := (nI 1)) O dX9_strike_44 (by decide +kernel) ?_
          refine g_goto (tgt := 49) O dX9_strike_45 (by decide) ?_
          refine g_iaddN O dX9_strike_49 ?_
          refine g_eq (st' := [.int (nI (cntB (isB (sv_fs s) x) (i_ + 1)))]) (by rw [hq]) rfl rfl ?_
          refine g_istore_n (L' := [(0, .ref u0), (1, .int (nI x)), (2, .int (nI (cntB (isB (sv_fs s) x) (i_ + 1)))), (3, .int (nI i_))]) O dX9_strike_50 rfl (by decide) [1, 2, 0, 3] rfl ?_
          refine g_iincN (L' := [(0, .ref u0), (1, .int (nI x)), (2, .int (nI (cntB (isB (sv_fs s) x) (i_ + 1)))), (3, .int (nI (i_ + 1)))]) O dX9_strike_51 3 rfl (by decide) [1, 2, 3, 0] rfl ?_
          refine g_goto (tgt := 15) O dX9_strike_54 (by decide) ?_
          exact ih_ (i_ + 1) (by first | assumption | omega | rfl) (by omega)
  exact J15 _ 0 (Nat.zero_le _) (Nat.lt_succ_self _)

set_option maxHeartbeats 4000000 in
set_option maxRecDepth 100000 in
theorem kX9_strike_ok (l : Launch) (D : va_G) (z : Nat × Nat × Nat) (u0 : Nat) (u1 : Nat) (u2 : Nat) (u3 : Nat) (u4 : Nat) (u5 : Nat) (u6 : Nat) (u7 : Nat) (u8 : Nat) (u9 : Nat) (u10 : Nat) (u11 : Nat) (kn : Nat) (ik : Bool) (ty : Nat) (ta : Nat) (iw : Bool) (M : Nat → Int32) (Bf : Nat → Int32) (s : SV) (x : Nat) (hM : RM M s) (hkn : kn ≤ 4) (hx : x < 4) (hps : sv_ps s ≤ 16) (hnc : sv_nc s ≤ 4) (hpc : ∀ j, j < sv_ps s → sv_fs s j < 4 ∧ sv_fa s j < 12 ∧ 1 ≤ sv_fk s j ∧ sv_fk s j ≤ 20) (hb : 0 < cntB (isB (sv_fs s) x) (sv_ps s)) : CM l yX9_strike wsX9_strike ({ frames := 1, cells := 0, slots := 0, locals := 22 } : Room) D z [.ref u0, .int (nI x)] [(u0, .inr (9, [.ref u1, .ref u2, .ref u3, .ref u4, .ref u5, .ref u6, .int (nI kn), .ref u7, .int (bB ik), .ref u8, .int (nI ty), .ref u9, .int (nI ta), .int (bB iw), .ref u10, .ref u11])), (u5, .inl ((TY D)[0].1, 208, .inl M)), (u6, .inl ((TY D)[0].1, 832, .inl Bf))] (fun r_ w_ => ∃ (M9 : Nat → Int32), (RM M9 (dsF s x (sv_ps s))) ∧ r_ = some (.int (nI (cntB (isB (sv_fs s) x) (sv_ps s)))) ∧ w_ = [(u0, .inr (9, [.ref u1, .ref u2, .ref u3, .ref u4, .ref u5, .ref u6, .int (nI (rhN kn)), .ref u7, .int (bB ik), .ref u8, .int (nI ty), .ref u9, .int (nI ta), .int (bB iw), .ref u10, .ref u11])), (u5, .inl ((TY D)[0].1, 208, .inl M9)), (u6, .inl ((TY D)[0].1, 832, .inl (kwF Bf M kn)))]) 0 0 := by
  refine CM_int (own := RX9) (cc := cX9_strike) (maxL := 4) (L0 := [(0, .ref u0), (1, .int (nI x))]) (by decide) rfl rfl (Nat.le_of_ble_eq_true rfl) rfl (fun X O E => ?_)
  refine g_iload_n O dX9_strike_0 1 rfl rfl ?_
  refine g_iconst (x := (nI 0)) O dX9_strike_1 (by decide +kernel) ?_
  refine g_iconst (x := (nI 3)) O dX9_strike_2 (by decide +kernel) ?_
  refine g_callS (As := [.int (nI x), .int (nI 0), .int (nI 3)]) (wr := [(u0, .inr (9, [.ref u1, .ref u2, .ref u3, .ref u4, .ref u5, .ref u6, .int (nI kn), .ref u7, .int (bB ik), .ref u8, .int (nI ty), .ref u9, .int (nI ta), .int (bB iw), .ref u10, .ref u11])), (u5, .inl ((TY D)[0].1, 208, .inl M)), (u6, .inl ((TY D)[0].1, 832, .inl Bf))]) O (kX9_in l D z (nI x) (nI 0) (nI 3) ) gX9_strike_X9_in rfl rfl rfl 3 (by decide +kernel) (by decide) (by decide) [] [0, 1, 2] rfl (by decide) rfl (by decide) (by decide) rfl rfl (Nat.le_of_ble_eq_true rfl) dX9_strike_3 (fun r_1 w_2 hp => ?_)
  obtain ⟨rfl, rfl⟩ := hp
  refine g_eq (st' := [.int (bB (inI (nI x) (nI 0) (nI 3)))]) (ws' := [(u0, .inr (9, [.ref u1, .ref u2, .ref u3, .ref u4, .ref u5, .ref u6, .int (nI kn), .ref u7, .int (bB ik), .ref u8, .int (nI ty), .ref u9, .int (nI ta), .int (bB iw), .ref u10, .ref u11])), (u5, .inl ((TY D)[0].1, 208, .inl M)), (u6, .inl ((TY D)[0].1, 832, .inl Bf))]) rfl rfl rfl ?_
  refine g_if_neB (tgt := 11) O dX9_strike_6 (by decide) (fun c_3 => ?_) (fun c_3 => absurd c_3 (by rw [inI_r _ (by decide), rgB_t hx (by decide)]; decide))
  refine g_iconst (x := (nI 0)) O dX9_strike_11 (by decide +kernel) ?_
  refine g_istore_n (L' := [(0, .ref u0), (1, .int (nI x)), (2, .int (nI 0))]) O dX9_strike_12 rfl (by decide) [1, 2, 0] rfl ?_
  refine g_iconst (x := (nI 0)) O dX9_strike_13 (by decide +kernel) ?_
  refine g_istore_n (L' := [(0, .ref u0), (1, .int (nI x)), (2, .int (nI 0)), (3, .int (nI 0))]) O dX9_strike_14 rfl (by decide) [1, 2, 3, 0] rfl ?_
  have J15 : ∀ (n_ : Nat), ∀ (i_ : Nat) (hi_ : i_ ≤ sv_ps s), sv_ps s - i_ < n_ → G X 0 0 15 [(0, .ref u0), (1, .int (nI x)), (2, .int (nI (cntB (isB (sv_fs s) x) i_))), (3, .int (nI i_))] [] [(u0, .inr (9, [.ref u1, .ref u2, .ref u3, .ref u4, .ref u5, .ref u6, .int (nI kn), .ref u7, .int (bB ik), .ref u8, .int (nI ty), .ref u9, .int (nI ta), .int (bB iw), .ref u10, .ref u11])), (u5, .inl ((TY D)[0].1, 208, .inl M)), (u6, .inl ((TY D)[0].1, 832, .inl Bf))] := by
    intro n_
    induction n_ with
    | zero => intro i_ hi_ hm_; exact absurd hm_ (Nat.not_lt_zero _)
    | succ n_ ih_ =>
      intro i_ hi_ hm_
      have hcl := cntB_le (isB (sv_fs s) x) i_
      refine g_iload_n O dX9_strike_15 3 rfl rfl ?_
      refine g_aload_n O dX9_strike_16 0 rfl rfl ?_
      refine g_get O hiX9_strike_X9 0 rfl rfl 4 (by decide) (by decide +kernel) rfl dX9_strike_17 ?_
      refine g_sipush (x := (nI 159)) O dX9_strike_20 (by decide +kernel) ?_
      refine g_ialdN O 1 rfl (by omega) (by omega) dX9_strike_23 ?_
      refine g_eq (st' := [.int (nI (sv_ps s)), .int (nI i_)]) (by rw [RM_ps hM]) rfl rfl ?_
      refine g_icmp_geN (tgt := 57) O (by omega) (by omega) dX9_strike_24 (by decide) (fun c_4 => ?_) (fun c_4 => ?_)
      ·
        obtain rfl : i_ = sv_ps s := by omega
        refine g_iload_n O dX9_strike_57 2 rfl rfl ?_
        refine g_if_neN (tgt := 64) O (by omega) dX9_strike_58 (by decide) (fun c_5 => ?_) (fun c_5 => (by exfalso; omega))
        refine g_aload_n O dX9_strike_64 0 rfl rfl ?_
        refine g_callV (As := []) (wr := []) O (kX9_know l D z u0 u1 u2 u3 u4 u5 u6 u7 u8 u9 u10 u11 kn ik ty ta iw M Bf (by first | assumption | omega)) gX9_strike_X9_know rfl rfl rfl 0 (by decide +kernel) (by decide) (by decide) (q0 := 0) rfl rfl rfl [0, 1, 2] [] rfl (by decide) rfl (by decide) (by decide) rfl rfl (Nat.le_of_ble_eq_true rfl) dX9_strike_65 (fun r_6 w_7 hp => ?_)
        obtain ⟨rfl, rfl⟩ := hp
        refine g_eq (st' := []) (ws' := [(u0, .inr (9, [.ref u1, .ref u2, .ref u3, .ref u4, .ref u5, .ref u6, .int (nI (rhN kn)), .ref u7, .int (bB ik), .ref u8, .int (nI ty), .ref u9, .int (nI ta), .int (bB iw), .ref u10, .ref u11])), (u5, .inl ((TY D)[0].1, 208, .inl M)), (u6, .inl ((TY D)[0].1, 832, .inl (kwF Bf M kn)))]) rfl rfl rfl ?_
        refine g_aload_n O dX9_strike_68 0 rfl rfl ?_
        refine g_get O hiX9_strike_X9 0 rfl rfl 4 (by decide) (by decide +kernel) rfl dX9_strike_69 ?_
        refine g_sipush (x := (nI 159)) O dX9_strike_72 (by decide +kernel) ?_
        refine g_ialdN O 1 rfl (by omega) (by omega) dX9_strike_75 ?_
        refine g_eq (st' := [.int (nI (sv_ps s))]) (by rw [RM_ps hM]) rfl rfl ?_
        refine g_iconst (x := (nI 1)) O dX9_strike_76 (by decide +kernel) ?_
        refine g_isub O dX9_strike_77 ?_
        refine g_eq (st' := [.int ((nI (sv_ps s)) + (-1))]) (by rw [m1_e]) rfl rfl ?_
        refine g_istore_n (L' := [(0, .ref u0), (1, .int (nI x)), (2, .int (nI (cntB (isB (sv_fs s) x) (sv_ps s)))), (3, .int ((nI (sv_ps s)) + (-1)))]) O dX9_strike_78 rfl (by decide) [1, 2, 3, 0] rfl ?_
        have J79 : ∀ (n_ : Nat), ∀ (m_ : Nat) (F_ : Nat → Int32) (hm : m_ ≤ sv_ps s) (hF : RM F_ (dsF s x m_)), sv_ps s + 1 - m_ < n_ → G X 0 0 79 [(0, .ref u0), (1, .int (nI x)), (2, .int (nI (cntB (isB (sv_fs s) x) (sv_ps s)))), (3, .int ((nI (sv_ps s - m_)) + (-1)))] [] [(u0, .inr (9, [.ref u1, .ref u2, .ref u3, .ref u4, .ref u5, .ref u6, .int (nI (rhN kn)), .ref u7, .int (bB ik), .ref u8, .int (nI ty), .ref u9, .int (nI ta), .int (bB iw), .ref u10, .ref u11])), (u5, .inl ((TY D)[0].1, 208, .inl F_)), (u6, .inl ((TY D)[0].1, 832, .inl (kwF Bf M kn)))] := by
          intro n_
          induction n_ with
          | zero => intro m_ F_ hm hF hm_; exact absurd hm_ (Nat.not_lt_zero _)
          | succ n_ ih_ =>
            intro m_ F_ hm hF hm_
            obtain ⟨hk1, hk2, hk3, hk4⟩ := dsF_k s x m_ hm
            by_cases hme : m_ = sv_ps s
            ·
              subst hme
              refine g_eq (L' := [(0, .ref u0), (1, .int (nI x)), (2, .int (nI (cntB (isB (sv_fs s) x) (sv_ps s)))), (3, .int (-1))]) rfl (by rw [Nat.sub_self, show nI 0 + (-1) = (-1 : Int32) from by decide +kernel]) rfl ?_
              refine g_iload_n O dX9_strike_79 3 rfl rfl ?_
              refine g_if_lt (tgt := 110) O dX9_strike_80 (by decide) (fun c_8 => ?_) (fun c_8 => absurd c_8 (by decide))
              refine g_iload_n O dX9_strike_110 2 rfl rfl ?_
              exact E 111 _ (nI (cntB (isB (sv_fs s) x) (sv_ps s))) _ dX9_strike_111 (⟨_, hF, rfl, rfl⟩)
            ·
              refine g_eq (L' := [(0, .ref u0), (1, .int (nI x)), (2, .int (nI (cntB (isB (sv_fs s) x) (sv_ps s)))), (3, .int (nI (sv_ps s - 1 - m_)))]) rfl (by rw [m1_e, pk_sub (by omega), show sv_ps s - m_ - 1 = sv_ps s - 1 - m_ by omega]) rfl ?_
              have hfm := hk4 (sv_ps s - 1 - m_) (by omega)
              have hpm := hpc (sv_ps s - 1 - m_) (by omega)
              refine g_iload_n O dX9_strike_79 3 rfl rfl ?_
              refine g_if_ltN (tgt := 110) O (by omega) dX9_strike_80 (by decide) ?_
              refine g_aload_n O dX9_strike_83 0 rfl rfl ?_
              refine g_get O hiX9_strike_X9 0 rfl rfl 4 (by decide) (by decide +kernel) rfl dX9_strike_84 ?_
              refine g_sipush (x := (nI 160)) O dX9_strike_87 (by decide +kernel) ?_
              refine g_iconst (x := (nI 3)) O dX9_strike_90 (by decide +kernel) ?_
              refine g_iload_n O dX9_strike_91 3 rfl rfl ?_
              refine g_imulN O dX9_strike_92 ?_
              refine g_iaddN O dX9_strike_93 ?_
              refine g_ialdN O 1 rfl (by omega) (by omega) dX9_strike_94 ?_
              refine g_eq (st' := [.int (nI (sv_fs s (sv_ps s - 1 - m_)))]) (by rw [(RM_b hF (show sv_ps s - 1 - m_ < sv_ps (dsF s x m_) by omega)).1, hfm]) rfl rfl ?_
              refine g_iload_n O dX9_strike_95 1 rfl rfl ?_
              refine g_icmp_neN (tgt := 104) O (by omega) (by omega) dX9_strike_96 (by decide) (fun c_10 => ?_) (fun c_10 => ?_)
              ·
                have hq2 : dsF s x (m_ + 1) = dsF s x m_ := by simp only [dsF]; rw [if_neg c_10]
                refine g_eq (L' := [(0, .ref u0), (1, .int (nI x)), (2, .int (nI (cntB (isB (sv_fs s) x) (sv_ps s)))), (3, .int (nI (sv_ps s - (m_ + 1))))]) rfl (by rw [show sv_ps s - 1 - m_ = sv_ps s - (m_ + 1) by omega]) rfl ?_
                refine g_iinc (L' := [(0, .ref u0), (1, .int (nI x)), (2, .int (nI (cntB (isB (sv_fs s) x) (sv_ps s)))), (3, .int ((nI (sv_ps s - (m_ + 1))) + (-1)))]) O dX9_strike_104 3 rfl (by rfl) (by decide) [1, 2, 3, 0] rfl ?_
                refine g_goto (tgt := 79) O dX9_strike_107 (by decide) ?_
                exact ih_ (m_ + 1) F_ (by omega) (by rw [hq2]; assumption) (by omega)
              ·
                have hq2 : dsF s x (m_ + 1) = rmS (dsF s x m_) (sv_ps s - 1 - m_) := by simp only [dsF]; rw [if_pos (Decidable.not_not.mp c_10)]
                refine g_aload_n O dX9_strike_99 0 rfl rfl ?_
                refine g_iload_n O dX9_strike_100 3 rfl rfl ?_
                refine g_callV (As := [.int (nI (sv_ps s - 1 - m_))]) (wr := [(u6, .inl ((TY D)[0].1, 832, .inl (kwF Bf M kn)))]) O (kX9_strikeAt l D z u0 u1 u2 u3 u4 u5 u6 u7 u8 u9 u10 u11 (rhN kn) ik ty ta iw F_ (dsF s x m_) (sv_ps s - 1 - m_) (by first | assumption | omega) (by first | assumption | omega) (by first | assumption | omega) (by first | assumption | omega)) gX9_strike_X9_strikeAt rfl rfl rfl 1 (by decide +kernel) (by decide) (by decide) (q0 := 0) rfl rfl rfl [0, 1] [2] rfl (by decide) rfl (by decide) (by decide) rfl rfl (Nat.le_of_ble_eq_true rfl) dX9_strike_101 (fun r_11 w_12 hp => ?_)
                obtain ⟨M9_13, hM9_14, rfl, rfl⟩ := hp
                refine g_eq (st' := []) (ws' := [(u6, .inl ((TY D)[0].1, 832, .inl (kwF Bf M kn))), (u0, .inr (9, [.ref u1, .ref u2, .ref u3, .ref u4, .ref u5, .ref u6, .int (nI (rhN kn)), .ref u7, .int (bB ik), .ref u8, .int (nI ty), .ref u9, .int (nI ta), .int (bB iw), .ref u10, .ref u11])), (u5, .inl ((TY D)[0].1, 208, .inl M9_13))]) rfl rfl rfl ?_
                refine g_eq (L' := [(0, .ref u0), (1, .int (nI x)), (2, .int (nI (cntB (isB (sv_fs s) x) (sv_ps s)))), (3, .int (nI (sv_ps s - (m_ + 1))))]) rfl (by rw [show sv_ps s - 1 - m_ = sv_ps s - (m_ + 1) by omega]) rfl ?_
                refine g_iinc (L' := [(0, .ref u0), (1, .int (nI x)), (2, .int (nI (cntB (isB (sv_fs s) x) (sv_ps s)))), (3, .int ((nI (sv_ps s - (m_ + 1))) + (-1)))]) O dX9_strike_104 3 rfl (by rfl) (by decide) [1, 2, 3, 0] rfl ?_
                refine g_goto (tgt := 79) O dX9_strike_107 (by decide) ?_
                refine g_perm (ws' := [(u0, .inr (9, [.ref u1, .ref u2, .ref u3, .ref u4, .ref u5, .ref u6, .int (nI (rhN kn)), .ref u7, .int (bB ik), .ref u8, .int (nI ty), .ref u9, .int (nI ta), .int (bB iw), .ref u10, .ref u11])), (u5, .inl ((TY D)[0].1, 208, .inl M9_13)), (u6, .inl ((TY D)[0].1, 832, .inl (kwF Bf M kn)))]) [1, 2, 0] rfl (by decide) ?_
                exact ih_ (m_ + 1) M9_13 (by omega) (by rw [hq2]; assumption) (by omega)
        exact J79 _ 0 M (Nat.zero_le _) (hM) (Nat.lt_succ_self _)
      ·
        have hpi := hpc i_ c_4
        refine g_iload_n O dX9_strike_27 2 rfl rfl ?_
        refine g_aload_n O dX9_strike_28 0 rfl rfl ?_
        refine g_get O hiX9_strike_X9 0 rfl rfl 4 (by decide) (by decide +kernel) rfl dX9_strike_29 ?_
        refine g_sipush (x := (nI 160)) O dX9_strike_32 (by decide +kernel) ?_
        refine g_iconst (x := (nI 3)) O dX9_strike_35 (by decide +kernel) ?_
        refine g_iload_n O dX9_strike_36 3 rfl rfl ?_
        refine g_imulN O dX9_strike_37 ?_
        refine g_iaddN O dX9_strike_38 ?_
        refine g_ialdN O 1 rfl (by omega) (by omega) dX9_strike_39 ?_
        refine g_iload_n O dX9_strike_40 1 rfl rfl ?_
        refine g_icmp_ne (tgt := 48) O dX9_strike_41 (by decide) (fun c_15 => ?_) (fun c_15 => ?_)
        ·
          have hq : cntB (isB (sv_fs s) x) (i_ + 1) = cntB (isB (sv_fs s) x) i_ := cntB_f (by simp only [isB]; simp [c_15])
          refine g_iconst (x := (nI 0)) O dX9_strike_48 (by decide +kernel) ?_
          refine g_iaddN O dX9_strike_49 ?_
          refine g_eq (st' := [.int (nI (cntB (isB (sv_fs s) x) (i_ + 1)))]) (by rw [hq]) rfl rfl ?_
          refine g_istore_n (L' := [(0, .ref u0), (1, .int (nI x)), (2, .int (nI (cntB (isB (sv_fs s) x) (i_ + 1)))), (3, .int (nI i_))]) O dX9_strike_50 rfl (by decide) [1, 2, 0, 3] rfl ?_
          refine g_iincN (L' := [(0, .ref u0), (1, .int (nI x)), (2, .int (nI (cntB (isB (sv_fs s) x) (i_ + 1)))), (3, .int (nI (i_ + 1)))]) O dX9_strike_51 3 rfl (by decide) [1, 2, 3, 0] rfl ?_
          refine g_goto (tgt := 15) O dX9_strike_54 (by decide) ?_
          exact ih_ (i_ + 1) (by first | assumption | omega | rfl) (by omega)
        ·
          have hq : cntB (isB (sv_fs s) x) (i_ + 1) = cntB (isB (sv_fs s) x) i_ + 1 := cntB_t (by simp only [isB]; have he := Decidable.not_not.mp c_15; simp [he])
          refine g_iconst (x := (nI 1)) O dX9_strike_44 (by decide +kernel) ?_
          refine g_goto (tgt := 49) O dX9_strike_45 (by decide) ?_
          refine g_iaddN O dX9_strike_49 ?_
          refine g_eq (st' := [.int (nI (cntB (isB (sv_fs s) x) (i_ + 1)))]) (by rw [hq]) rfl rfl ?_
          refine g_istore_n (L' := [(0, .ref u0), (1, .int (nI x)), (2, .int (nI (cntB (isB (sv_fs s) x) (i_ + 1)))), (3, .int (nI i_))]) O dX9_strike_50 rfl (by decide) [1, 2, 0, 3] rfl ?_
          refine g_iincN (L' := [(0, .ref u0), (1, .int (nI x)), (2, .int (nI (cntB (isB (sv_fs s) x) (i_ + 1)))), (3, .int (nI (i_ + 1)))]) O dX9_strike_51 3 rfl (by decide) [1, 2, 3, 0] rfl ?_
          refine g_goto (tgt := 15) O dX9_strike_54 (by decide) ?_
          exact ih_ (i_ + 1) (by first | assumption | omega | rfl) (by omega)
  exact J15 _ 0 (Nat.zero_le _) (Nat.lt_succ_self _)

set_option maxHeartbeats 4000000 in
set_option maxRecDepth 100000 in
/-- the calmest place near by -/
theorem kX9_calmest (l : Launch) (D : va_G) (z : Nat × Nat × Nat) (u0 : Nat) (u1 : Nat) (u2 : Nat) (u3 : Nat) (u4 : Nat) (u5 : Nat) (u6 : Nat) (u7 : Nat) (u8 : Nat) (u9 : Nat) (u10 : Nat) (u11 : Nat) (kn : Nat) (ik : Bool) (ty : Nat) (ta : Nat) (iw : Bool) (w : Nat) (p : Nat) (hw : w < 48) (hp : p < 144) : CM l yX9_calmest wsX9_calmest ({ frames := 2, cells := 0, slots := 0, locals := 43 } : Room) D z [.ref u0, .int (nI w), .int (nI p)] [(u0, .inr (9, [.ref u1, .ref u2, .ref u3, .ref u4, .ref u5, .ref u6, .int (nI kn), .ref u7, .int (bB ik), .ref u8, .int (nI ty), .ref u9, .int (nI ta), .int (bB iw), .ref u10, .ref u11])), (u4, .inl ((TY D)[0].1, 6912, .inl SWT))] (fun r_ w_ => r_ = some (.int (nI (cmN w p))) ∧ w_ = [(u0, .inr (9, [.ref u1, .ref u2, .ref u3, .ref u4, .ref u5, .ref u6, .int (nI kn), .ref u7, .int (bB ik), .ref u8, .int (nI ty), .ref u9, .int (nI ta), .int (bB iw), .ref u10, .ref u11])), (u4, .inl ((TY D)[0].1, 6912, .inl SWT))]) 0 0 := by
  refine CM_int (own := RX9) (cc := cX9_calmest) (maxL := 9) (L0 := [(0, .ref u0), (1, .int (nI w)), (2, .int (nI p))]) (by decide) rfl rfl (Nat.le_of_ble_eq_true rfl) rfl (fun X O E => ?_)
  refine g_bipush (x := (-5)) O dX9_calmest_0 (by decide +kernel) ?_
  refine g_istore_n (L' := [(0, .ref u0), (1, .int (nI w)), (2, .int (nI p)), (3, .int (-5))]) O dX9_calmest_2 rfl (by decide) [1, 2, 3, 0] rfl ?_
  refine g_iconst (x := (nI 0)) O dX9_calmest_3 (by decide +kernel) ?_
  refine g_istore (L' := [(0, .ref u0), (1, .int (nI w)), (2, .int (nI p)), (3, .int (-5)), (4, .int (nI 0))]) O dX9_calmest_4 (by decide) [1, 2, 3, 4, 0] rfl ?_
  have J6 : ∀ (n_ : Nat), ∀ (k_ : Nat) (o_ : Option Nat) (hk : k_ ≤ 4) (ho : o_ = cmO (SW w) p k_) (hol : ∀ f, o_ = some f → f < 144), 4 - k_ < n_ → G X 0 0 6 [(0, .ref u0), (1, .int (nI w)), (2, .int (nI p)), (3, .int (orN o_)), (4, .int (nI k_))] [] [(u0, .inr (9, [.ref u1, .ref u2, .ref u3, .ref u4, .ref u5, .ref u6, .int (nI kn), .ref u7, .int (bB ik), .ref u8, .int (nI ty), .ref u9, .int (nI ta), .int (bB iw), .ref u10, .ref u11])), (u4, .inl ((TY D)[0].1, 6912, .inl SWT))] := by
    intro n_
    induction n_ with
    | zero => intro k_ o_ hk ho hol hm_; exact absurd hm_ (Nat.not_lt_zero _)
    | succ n_ ih_ =>
      intro k_ o_ hk ho hol hm_
      rcases (show k_ = 0 ∨ k_ = 1 ∨ k_ = 2 ∨ k_ = 3 ∨ k_ = 4 by omega) with rfl | rfl | rfl | rfl | rfl
      ·
        refine g_iload O dX9_calmest_6 4 rfl ?_
        refine g_iconst (x := (nI 4)) O dX9_calmest_8 (by decide +kernel) ?_
        refine g_icmp_geN (tgt := 134) O (by omega) (by omega) dX9_calmest_9 (by decide) (fun c_1 => absurd c_1 (by decide)) (fun c_1 => ?_)
        refine g_iload_n O dX9_calmest_12 2 rfl rfl ?_
        refine g_bipush (x := (nI 12)) O dX9_calmest_13 (by decide +kernel) ?_
        refine g_iremN O (by omega) (by omega) (by omega) dX9_calmest_15 ?_
        refine g_iload O dX9_calmest_16 4 rfl ?_
        refine g_iconst (x := (nI 1)) O dX9_calmest_18 (by decide +kernel) ?_
        refine g_icmp_neN (tgt := 26) O (by omega) (by omega) dX9_calmest_19 (by decide) (fun c_2 => ?_) (fun c_2 => absurd c_2 (by decide))
        refine g_iload O dX9_calmest_26 4 rfl ?_
        refine g_iconst (x := (nI 2)) O dX9_calmest_28 (by decide +kernel) ?_
        refine g_icmp_neN (tgt := 36) O (by omega) (by omega) dX9_calmest_29 (by decide) (fun c_3 => ?_) (fun c_3 => absurd c_3 (by decide))
        refine g_iconst (x := (nI 0)) O dX9_calmest_36 (by decide +kernel) ?_
        refine g_iaddN O dX9_calmest_37 ?_
        refine g_istore (L' := [(0, .ref u0), (1, .int (nI w)), (2, .int (nI p)), (3, .int (orN o_)), (4, .int (nI 0)), (5, .int (nI ((p % 12) + 0)))]) O dX9_calmest_38 (by decide) [1, 2, 3, 4, 5, 0] rfl ?_
        obtain ⟨X5, hX5⟩ : ∃ x, x = (nI ((p % 12) + 0)) := ⟨_, rfl⟩
        refine g_eq (L' := [(0, .ref u0), (1, .int (nI w)), (2, .int (nI p)), (3, .int (orN o_)), (4, .int (nI 0)), (5, .int X5)]) rfl (by rw [hX5]) rfl ?_
        refine g_iload_n O dX9_calmest_40 2 rfl rfl ?_
        refine g_bipush (x := (nI 12)) O dX9_calmest_41 (by decide +kernel) ?_
        refine g_idivN O (by omega) (by omega) (by omega) dX9_calmest_43 ?_
        refine g_iload O dX9_calmest_44 4 rfl ?_
        refine g_if_neN (tgt := 53) O (by omega) dX9_calmest_46 (by decide) (fun c_4 => absurd c_4 (by decide)) (fun c_4 => ?_)
        refine g_iconst (x := (-1)) O dX9_calmest_49 (by decide +kernel) ?_
        refine g_goto (tgt := 64) O dX9_calmest_50 (by decide) ?_
        refine g_iadd O dX9_calmest_64 ?_
        refine g_istore (L' := [(0, .ref u0), (1, .int (nI w)), (2, .int (nI p)), (3, .int (orN o_)), (4, .int (nI 0)), (5, .int X5), (6, .int ((nI (p / 12)) + (-1)))]) O dX9_calmest_65 (by decide) [1, 2, 3, 4, 5, 6, 0] rfl ?_
        obtain ⟨Y6, hY6⟩ : ∃ x, x = ((nI (p / 12)) + (-1)) := ⟨_, rfl⟩
        refine g_eq (L' := [(0, .ref u0), (1, .int (nI w)), (2, .int (nI p)), (3, .int (orN o_)), (4, .int (nI 0)), (5, .int X5), (6, .int Y6)]) rfl (by rw [hY6]) rfl ?_
        refine g_bipush (x := (nI 12)) O dX9_calmest_67 (by decide +kernel) ?_
        refine g_iload O dX9_calmest_69 6 rfl ?_
        refine g_imul O dX9_calmest_71 ?_
        refine g_iload O dX9_calmest_72 5 rfl ?_
        refine g_iadd O dX9_calmest_74 ?_
        refine g_istore (L' := [(0, .ref u0), (1, .int (nI w)), (2, .int (nI p)), (3, .int (orN o_)), (4, .int (nI 0)), (5, .int X5), (6, .int Y6), (7, .int (((nI 12) * Y6) + X5))]) O dX9_calmest_75 (by decide) [1, 2, 3, 4, 5, 6, 7, 0] rfl ?_
        refine g_iload O dX9_calmest_77 5 rfl ?_
        refine g_iload O dX9_calmest_79 6 rfl ?_
        refine g_callS (As := [.int X5, .int Y6]) (wr := [(u0, .inr (9, [.ref u1, .ref u2, .ref u3, .ref u4, .ref u5, .ref u6, .int (nI kn), .ref u7, .int (bB ik), .ref u8, .int (nI ty), .ref u9, .int (nI ta), .int (bB iw), .ref u10, .ref u11])), (u4, .inl ((TY D)[0].1, 6912, .inl SWT))]) O (kX9_isOn l D z X5 Y6 ) gX9_calmest_X9_isOn rfl rfl rfl 2 (by decide +kernel) (by decide) (by decide) [] [0, 1] rfl (by decide) rfl (by decide) (by decide) rfl rfl (Nat.le_of_ble_eq_true rfl) dX9_calmest_81 (fun r_5 w_6 hp => ?_)
        obtain ⟨rfl, rfl⟩ := hp
        refine g_eq (st' := [.int (bB (rgB X5 12 && rgB Y6 12))]) (ws' := [(u0, .inr (9, [.ref u1, .ref u2, .ref u3, .ref u4, .ref u5, .ref u6, .int (nI kn), .ref u7, .int (bB ik), .ref u8, .int (nI ty), .ref u9, .int (nI ta), .int (bB iw), .ref u10, .ref u11])), (u4, .inl ((TY D)[0].1, 6912, .inl SWT))]) rfl rfl rfl ?_
        refine g_if_eqB (tgt := 113) O dX9_calmest_84 (by decide) (fun c_7 => ?_) (fun c_7 => ?_)
        ·
          have hnb : nbP p 0 = rchP X5 Y6 := by rw [hX5, hY6]; simp only [nbP, m1_e, nI_add, Nat.add_zero]
          have hq : cmO (SW w) p (0 + 1) = o_ := by simp only [cmO]; rw [← ho, hnb, rchP_n c_7]; rfl
          refine g_iconst (x := (nI 0)) O dX9_calmest_113 (by decide +kernel) ?_
          refine g_istore (L' := [(0, .ref u0), (1, .int (nI w)), (2, .int (nI p)), (3, .int (orN o_)), (4, .int (nI 0)), (5, .int X5), (6, .int Y6), (7, .int (((nI 12) * Y6) + X5)), (8, .int (nI 0))]) O dX9_calmest_114 (by decide) [1, 2, 3, 4, 5, 6, 7, 8, 0] rfl ?_
          refine g_iload O dX9_calmest_116 8 rfl ?_
          refine g_if_eqN (tgt := 126) O (by omega) dX9_calmest_118 (by decide) (fun c_8 => ?_) (fun c_8 => absurd c_8 (by decide))
          refine g_iload_n O dX9_calmest_126 3 rfl rfl ?_
          refine g_istore_n (L' := [(0, .ref u0), (1, .int (nI w)), (2, .int (nI p)), (3, .int (orN o_)), (4, .int (nI 0)), (5, .int X5), (6, .int Y6), (7, .int (((nI 12) * Y6) + X5)), (8, .int (nI 0))]) O dX9_calmest_127 rfl (by decide) [1, 2, 3, 0, 4, 5, 6, 7, 8] rfl ?_
          refine g_iincN (L' := [(0, .ref u0), (1, .int (nI w)), (2, .int (nI p)), (3, .int (orN o_)), (4, .int (nI (0 + 1))), (5, .int X5), (6, .int Y6), (7, .int (((nI 12) * Y6) + X5)), (8, .int (nI 0))]) O dX9_calmest_128 4 rfl (by decide) [1, 2, 3, 4, 0, 5, 6, 7, 8] rfl ?_
          refine g_goto (tgt := 6) O dX9_calmest_131 (by decide) ?_
          refine g_locals (L' := [(0, .ref u0), (1, .int (nI w)), (2, .int (nI p)), (3, .int (orN o_)), (4, .int (nI (0 + 1)))]) [0, 1, 2, 3, 4] rfl ?_
          exact ih_ 1 o_ (by first | assumption | omega | rfl) (hq.symm) (by rw [← hq]; exact fun f hf => cmO_lt _ f hf) (by omega)
        ·
          have hnb : nbP p 0 = rchP X5 Y6 := by rw [hX5, hY6]; simp only [nbP, m1_e, nI_add, Nat.add_zero]
          rw [Bool.and_eq_true] at c_7
          obtain ⟨⟨a_, ha, hXa⟩, ⟨d_, hd, hYd⟩⟩ := And.intro ((rgB_iff (by decide)).mp c_7.1) ((rgB_iff (by decide)).mp c_7.2)
          have hr : nbP p 0 = some (12 * d_ + a_) := by rw [hnb, hXa, hYd, rchP_s ha hd, show d_ * 12 + a_ = 12 * d_ + a_ by omega]
          refine g_eq (L' := [(0, .ref u0), (1, .int (nI w)), (2, .int (nI p)), (3, .int (orN o_)), (4, .int (nI 0)), (5, .int (nI a_)), (6, .int (nI d_)), (7, .int (nI (12 * d_ + a_)))]) rfl (by rw [hXa, hYd, pk_mul, nI_add]) rfl ?_
          cases o_ with
          | none =>
            refine g_eq (L' := [(0, .ref u0), (1, .int (nI w)), (2, .int (nI p)), (3, .int (-5)), (4, .int (nI 0)), (5, .int (nI a_)), (6, .int (nI d_)), (7, .int (nI (12 * d_ + a_)))]) rfl rfl rfl ?_
            have hq : cmO (SW w) p (0 + 1) = some (12 * d_ + a_) := by simp only [cmO]; rw [← ho, hr]; rfl
            refine g_iload_n O dX9_calmest_87 3 rfl rfl ?_
            refine g_bipush (x := (-5)) O dX9_calmest_88 (by decide +kernel) ?_
            refine g_icmp_eq (tgt := 109) O dX9_calmest_90 (by decide) (fun c_9 => ?_) (fun c_9 => absurd c_9 (fun h => h rfl))
            refine g_iconst (x := (nI 1)) O dX9_calmest_109 (by decide +kernel) ?_
            refine g_goto (tgt := 114) O dX9_calmest_110 (by decide) ?_
            refine g_istore (L' := [(0, .ref u0), (1, .int (nI w)), (2, .int (nI p)), (3, .int (-5)), (4, .int (nI 0)), (5, .int (nI a_)), (6, .int (nI d_)), (7, .int (nI (12 * d_ + a_))), (8, .int (nI 1))]) O dX9_calmest_114 (by decide) [1, 2, 3, 4, 5, 6, 7, 8, 0] rfl ?_
            refine g_iload O dX9_calmest_116 8 rfl ?_
            refine g_if_eqN (tgt := 126) O (by omega) dX9_calmest_118 (by decide) (fun c_10 => absurd c_10 (by decide)) (fun c_10 => ?_)
            refine g_iload O dX9_calmest_121 7 rfl ?_
            refine g_goto (tgt := 127) O dX9_calmest_123 (by decide) ?_
            refine g_istore_n (L' := [(0, .ref u0), (1, .int (nI w)), (2, .int (nI p)), (3, .int (nI (12 * d_ + a_))), (4, .int (nI 0)), (5, .int (nI a_)), (6, .int (nI d_)), (7, .int (nI (12 * d_ + a_))), (8, .int (nI 1))]) O dX9_calmest_127 rfl (by decide) [1, 2, 3, 0, 4, 5, 6, 7, 8] rfl ?_
            refine g_iincN (L' := [(0, .ref u0), (1, .int (nI w)), (2, .int (nI p)), (3, .int (nI (12 * d_ + a_))), (4, .int (nI (0 + 1))), (5, .int (nI a_)), (6, .int (nI d_)), (7, .int (nI (12 * d_ + a_))), (8, .int (nI 1))]) O dX9_calmest_128 4 rfl (by decide) [1, 2, 3, 4, 0, 5, 6, 7, 8] rfl ?_
            refine g_goto (tgt := 6) O dX9_calmest_131 (by decide) ?_
            refine g_locals (L' := [(0, .ref u0), (1, .int (nI w)), (2, .int (nI p)), (3, .int (nI (12 * d_ + a_))), (4, .int (nI (0 + 1)))]) [0, 1, 2, 3, 4] rfl ?_
            exact ih_ 1 (some (12 * d_ + a_)) (by first | assumption | omega | rfl) (hq.symm) (by rw [← hq]; exact fun f hf => cmO_lt _ f hf) (by omega)
          | some f_ =>
            have hf144 := hol f_ rfl
            refine g_eq (L' := [(0, .ref u0), (1, .int (nI w)), (2, .int (nI p)), (3, .int (nI f_)), (4, .int (nI 0)), (5, .int (nI a_)), (6, .int (nI d_)), (7, .int (nI (12 * d_ + a_)))]) rfl rfl rfl ?_
            refine g_iload_n O dX9_calmest_87 3 rfl rfl ?_
            refine g_bipush (x := (-5)) O dX9_calmest_88 (by decide +kernel) ?_
            refine g_icmp_eq (tgt := 109) O dX9_calmest_90 (by decide) (fun c_11 => (by exact absurd c_11 (fun h => by have h2 := (nI_toInt (n := f_) (by omega)).symm.trans (congrArg Int32.toInt h); have h3 : (-5 : Int32).toInt = -5 := by decide +kernel; rw [h3] at h2; omega))) (fun c_11 => ?_)
            refine g_aload_n O dX9_calmest_93 0 rfl rfl ?_
            refine g_iload_n O dX9_calmest_94 1 rfl rfl ?_
            refine g_iload O dX9_calmest_95 7 rfl ?_
            refine g_callV (As := [.int (nI w), .int (nI (12 * d_ + a_))]) (wr := []) O (kX9_swingAt l D z u0 u1 u2 u3 u4 u5 u6 u7 u8 u9 u10 u11 kn ik ty ta iw w (12 * d_ + a_) (by first | assumption | omega) (by first | assumption | omega)) gX9_calmest_X9_swingAt rfl rfl rfl 2 (by decide +kernel) (by decide) (by decide) (q0 := 0) rfl rfl rfl [0, 1] [] rfl (by decide) rfl (by decide) (by decide) rfl rfl (Nat.le_of_ble_eq_true rfl) dX9_calmest_97 (fun r_12 w_13 hp => ?_)
            obtain ⟨rfl, rfl⟩ := hp
            refine g_eq (st' := [.int (SW w (12 * d_ + a_))]) (ws' := [(u0, .inr (9, [.ref u1, .ref u2, .ref u3, .ref u4, .ref u5, .ref u6, .int (nI kn), .ref u7, .int (bB ik), .ref u8, .int (nI ty), .ref u9, .int (nI ta), .int (bB iw), .ref u10, .ref u11])), (u4, .inl ((TY D)[0].1, 6912, .inl SWT))]) rfl rfl rfl ?_
            refine g_aload_n O dX9_calmest_100 0 rfl rfl ?_
            refine g_iload_n O dX9_calmest_101 1 rfl rfl ?_
            refine g_iload_n O dX9_calmest_102 3 rfl rfl ?_
            refine g_callV (As := [.int (nI w), .int (nI f_)]) (wr := []) O (kX9_swingAt l D z u0 u1 u2 u3 u4 u5 u6 u7 u8 u9 u10 u11 kn ik ty ta iw w f_ (by first | assumption | omega) (by first | assumption | omega)) gX9_calmest_X9_swingAt rfl rfl rfl 2 (by decide +kernel) (by decide) (by decide) (q0 := 0) rfl rfl rfl [0, 1] [] rfl (by decide) rfl (by decide) (by decide) rfl rfl (Nat.le_of_ble_eq_true rfl) dX9_calmest_103 (fun r_14 w_15 hp => ?_)
            obtain ⟨rfl, rfl⟩ := hp
            refine g_eq (st' := [.int (SW w f_), .int (SW w (12 * d_ + a_))]) (ws' := [(u0, .inr (9, [.ref u1, .ref u2, .ref u3, .ref u4, .ref u5, .ref u6, .int (nI kn), .ref u7, .int (bB ik), .ref u8, .int (nI ty), .ref u9, .int (nI ta), .int (bB iw), .ref u10, .ref u11])), (u4, .inl ((TY D)[0].1, 6912, .inl SWT))]) rfl rfl rfl ?_
            refine g_icmp_ge (tgt := 113) O dX9_calmest_106 (by decide) (fun c_16 => ?_) (fun c_16 => ?_)
            ·
              have hq : cmO (SW w) p (0 + 1) = some f_ := by simp only [cmO]; rw [← ho, hr]; simp only [cmS]; rw [if_neg (Int32.not_lt.mpr c_16)]
              refine g_iconst (x := (nI 0)) O dX9_calmest_113 (by decide +kernel) ?_
              refine g_istore (L' := [(0, .ref u0), (1, .int (nI w)), (2, .int (nI p)), (3, .int (nI f_)), (4, .int (nI 0)), (5, .int (nI a_)), (6, .int (nI d_)), (7, .int (nI (12 * d_ + a_))), (8, .int (nI 0))]) O dX9_calmest_114 (by decide) [1, 2, 3, 4, 5, 6, 7, 8, 0] rfl ?_
              refine g_iload O dX9_calmest_116 8 rfl ?_
              refine g_if_eqN (tgt := 126) O (by omega) dX9_calmest_118 (by decide) (fun c_17 => ?_) (fun c_17 => absurd c_17 (by decide))
              refine g_iload_n O dX9_calmest_126 3 rfl rfl ?_
              refine g_istore_n (L' := [(0, .ref u0), (1, .int (nI w)), (2, .int (nI p)), (3, .int (nI f_)), (4, .int (nI 0)), (5, .int (nI a_)), (6, .int (nI d_)), (7, .int (nI (12 * d_ + a_))), (8, .int (nI 0))]) O dX9_calmest_127 rfl (by decide) [1, 2, 3, 0, 4, 5, 6, 7, 8] rfl ?_
              refine g_iincN (L' := [(0, .ref u0), (1, .int (nI w)), (2, .int (nI p)), (3, .int (nI f_)), (4, .int (nI (0 + 1))), (5, .int (nI a_)), (6, .int (nI d_)), (7, .int (nI (12 * d_ + a_))), (8, .int (nI 0))]) O dX9_calmest_128 4 rfl (by decide) [1, 2, 3, 4, 0, 5, 6, 7, 8] rfl ?_
              refine g_goto (tgt := 6) O dX9_calmest_131 (by decide) ?_
              refine g_locals (L' := [(0, .ref u0), (1, .int (nI w)), (2, .int (nI p)), (3, .int (nI f_)), (4, .int (nI (0 + 1)))]) [0, 1, 2, 3, 4] rfl ?_
              exact ih_ 1 (some (f_)) (by first | assumption | omega | rfl) (hq.symm) (by rw [← hq]; exact fun f hf => cmO_lt _ f hf) (by omega)
            ·
              have hq : cmO (SW w) p (0 + 1) = some (12 * d_ + a_) := by simp only [cmO]; rw [← ho, hr]; simp only [cmS]; rw [if_pos (Int32.not_le.mp c_16)]
              refine g_iconst (x := (nI 1)) O dX9_calmest_109 (by decide +kernel) ?_
              refine g_goto (tgt := 114) O dX9_calmest_110 (by decide) ?_
              refine g_istore (L' := [(0, .ref u0), (1, .int (nI w)), (2, .int (nI p)), (3, .int (nI f_)), (4, .int (nI 0)), (5, .int (nI a_)), (6, .int (nI d_)), (7, .int (nI (12 * d_ + a_))), (8, .int (nI 1))]) O dX9_calmest_114 (by decide) [1, 2, 3, 4, 5, 6, 7, 8, 0] rfl ?_
              refine g_iload O dX9_calmest_116 8 rfl ?_
              refine g_if_eqN (tgt := 126) O (by omega) dX9_calmest_118 (by decide) (fun c_18 => absurd c_18 (by decide)) (fun c_18 => ?_)
              refine g_iload O dX9_calmest_121 7 rfl ?_
              refine g_goto (tgt := 127) O dX9_calmest_123 (by decide) ?_
              refine g_istore_n (L' := [(0, .ref u0), (1, .int (nI w)), (2, .int (nI p)), (3, .int (nI (12 * d_ + a_))), (4, .int (nI 0)), (5, .int (nI a_)), (6, .int (nI d_)), (7, .int (nI (12 * d_ + a_))), (8, .int (nI 1))]) O dX9_calmest_127 rfl (by decide) [1, 2, 3, 0, 4, 5, 6, 7, 8] rfl ?_
              refine g_iincN (L' := [(0, .ref u0), (1, .int (nI w)), (2, .int (nI p)), (3, .int (nI (12 * d_ + a_))), (4, .int (nI (0 + 1))), (5, .int (nI a_)), (6, .int (nI d_)), (7, .int (nI (12 * d_ + a_))), (8, .int (nI 1))]) O dX9_calmest_128 4 rfl (by decide) [1, 2, 3, 4, 0, 5, 6, 7, 8] rfl ?_
              refine g_goto (tgt := 6) O dX9_calmest_131 (by decide) ?_
              refine g_locals (L' := [(0, .ref u0), (1, .int (nI w)), (2, .int (nI p)), (3, .int (nI (12 * d_ + a_))), (4, .int (nI (0 + 1)))]) [0, 1, 2, 3, 4] rfl ?_
              exact ih_ 1 (some (12 * d_ + a_)) (by first | assumption | omega | rfl) (hq.symm) (by rw [← hq]; exact fun f hf => cmO_lt _ f hf) (by omega)
      ·
        refine g_iload O dX9_calmest_6 4 rfl ?_
        refine g_iconst (x := (nI 4)) O dX9_calmest_8 (by decide +kernel) ?_
        refine g_icmp_geN (tgt := 134) O (by omega) (by omega) dX9_calmest_9 (by decide) (fun c_19 => absurd c_19 (by decide)) (fun c_19 => ?_)
        refine g_iload_n O dX9_calmest_12 2 rfl rfl ?_
        refine g_bipush (x := (nI 12)) O dX9_calmest_13 (by decide +kernel) ?_
        refine g_iremN O (by omega) (by omega) (by omega) dX9_calmest_15 ?_
        refine g_iload O dX9_calmest_16 4 rfl ?_
        refine g_iconst (x := (nI 1)) O dX9_calmest_18 (by decide +kernel) ?_
        refine g_icmp_neN (tgt := 26) O (by omega) (by omega) dX9_calmest_19 (by decide) (fun c_20 => absurd c_20 (by decide)) (fun c_20 => ?_)
        refine g_iconst (x := (-1)) O dX9_calmest_22 (by decide +kernel) ?_
        refine g_goto (tgt := 37) O dX9_calmest_23 (by decide) ?_
        refine g_iadd O dX9_calmest_37 ?_
        refine g_istore (L' := [(0, .ref u0), (1, .int (nI w)), (2, .int (nI p)), (3, .int (orN o_)), (4, .int (nI 1)), (5, .int ((nI (p % 12)) + (-1)))]) O dX9_calmest_38 (by decide) [1, 2, 3, 4, 5, 0] rfl ?_
        obtain ⟨X5, hX5⟩ : ∃ x, x = ((nI (p % 12)) + (-1)) := ⟨_, rfl⟩
        refine g_eq (L' := [(0, .ref u0), (1, .int (nI w)), (2, .int (nI p)), (3, .int (orN o_)), (4, .int (nI 1)), (5, .int X5)]) rfl (by rw [hX5]) rfl ?_
        refine g_iload_n O dX9_calmest_40 2 rfl rfl ?_
        refine g_bipush (x := (nI 12)) O dX9_calmest_41 (by decide +kernel) ?_
        refine g_idivN O (by omega) (by omega) (by omega) dX9_calmest_43 ?_
        refine g_iload O dX9_calmest_44 4 rfl ?_
        refine g_if_neN (tgt := 53) O (by omega) dX9_calmest_46 (by decide) (fun c_21 => ?_) (fun c_21 => absurd c_21 (by decide))
        refine g_iload O dX9_calmest_53 4 rfl ?_
        refine g_iconst (x := (nI 3)) O dX9_calmest_55 (by decide +kernel) ?_
        refine g_icmp_neN (tgt := 63) O (by omega) (by omega) dX9_calmest_56 (by decide) (fun c_22 => ?_) (fun c_22 => absurd c_22 (by decide))
        refine g_iconst (x := (nI 0)) O dX9_calmest_63 (by decide +kernel) ?_
        refine g_iaddN O dX9_calmest_64 ?_
        refine g_istore (L' := [(0, .ref u0), (1, .int (nI w)), (2, .int (nI p)), (3, .int (orN o_)), (4, .int (nI 1)), (5, .int X5), (6, .int (nI ((p / 12) + 0)))]) O dX9_calmest_65 (by decide) [1, 2, 3, 4, 5, 6, 0] rfl ?_
        obtain ⟨Y6, hY6⟩ : ∃ x, x = (nI ((p / 12) + 0)) := ⟨_, rfl⟩
        refine g_eq (L' := [(0, .ref u0), (1, .int (nI w)), (2, .int (nI p)), (3, .int (orN o_)), (4, .int (nI 1)), (5, .int X5), (6, .int Y6)]) rfl (by rw [hY6]) rfl ?_
        refine g_bipush (x := (nI 12)) O dX9_calmest_67 (by decide +kernel) ?_
        refine g_iload O dX9_calmest_69 6 rfl ?_
        refine g_imul O dX9_calmest_71 ?_
        refine g_iload O dX9_calmest_72 5 rfl ?_
        refine g_iadd O dX9_calmest_74 ?_
        refine g_istore (L' := [(0, .ref u0), (1, .int (nI w)), (2, .int (nI p)), (3, .int (orN o_)), (4, .int (nI 1)), (5, .int X5), (6, .int Y6), (7, .int (((nI 12) * Y6) + X5))]) O dX9_calmest_75 (by decide) [1, 2, 3, 4, 5, 6, 7, 0] rfl ?_
        refine g_iload O dX9_calmest_77 5 rfl ?_
        refine g_iload O dX9_calmest_79 6 rfl ?_
        refine g_callS (As := [.int X5, .int Y6]) (wr := [(u0, .inr (9, [.ref u1, .ref u2, .ref u3, .ref u4, .ref u5, .ref u6, .int (nI kn), .ref u7, .int (bB ik), .ref u8, .int (nI ty), .ref u9, .int (nI ta), .int (bB iw), .ref u10, .ref u11])), (u4, .inl ((TY D)[0].1, 6912, .inl SWT))]) O (kX9_isOn l D z X5 Y6 ) gX9_calmest_X9_isOn rfl rfl rfl 2 (by decide +kernel) (by decide) (by decide) [] [0, 1] rfl (by decide) rfl (by decide) (by decide) rfl rfl (Nat.le_of_ble_eq_true rfl) dX9_calmest_81 (fun r_23 w_24 hp => ?_)
        obtain ⟨rfl, rfl⟩ := hp
        refine g_eq (st' := [.int (bB (rgB X5 12 && rgB Y6 12))]) (ws' := [(u0, .inr (9, [.ref u1, .ref u2, .ref u3, .ref u4, .ref u5, .ref u6, .int (nI kn), .ref u7, .int (bB ik), .ref u8, .int (nI ty), .ref u9, .int (nI ta), .int (bB iw), .ref u10, .ref u11])), (u4, .inl ((TY D)[0].1, 6912, .inl SWT))]) rfl rfl rfl ?_
        refine g_if_eqB (tgt := 113) O dX9_calmest_84 (by decide) (fun c_25 => ?_) (fun c_25 => ?_)
        ·
          have hnb : nbP p 1 = rchP X5 Y6 := by rw [hX5, hY6]; simp only [nbP, m1_e, nI_add, Nat.add_zero]
          have hq : cmO (SW w) p (1 + 1) = o_ := by simp only [cmO]; rw [← ho, hnb, rchP_n c_25]; rfl
          refine g_iconst (x := (nI 0)) O dX9_calmest_113 (by decide +kernel) ?_
          refine g_istore (L' := [(0, .ref u0), (1, .int (nI w)), (2, .int (nI p)), (3, .int (orN o_)), (4, .int (nI 1)), (5, .int X5), (6, .int Y6), (7, .int (((nI 12) * Y6) + X5)), (8, .int (nI 0))]) O dX9_calmest_114 (by decide) [1, 2, 3, 4, 5, 6, 7, 8, 0] rfl ?_
          refine g_iload O dX9_calmest_116 8 rfl ?_
          refine g_if_eqN (tgt := 126) O (by omega) dX9_calmest_118 (by decide) (fun c_26 => ?_) (fun c_26 => absurd c_26 (by decide))
          refine g_iload_n O dX9_calmest_126 3 rfl rfl ?_
          refine g_istore_n (L' := [(0, .ref u0), (1, .int (nI w)), (2, .int (nI p)), (3, .int (orN o_)), (4, .int (nI 1)), (5, .int X5), (6, .int Y6), (7, .int (((nI 12) * Y6) + X5)), (8, .int (nI 0))]) O dX9_calmest_127 rfl (by decide) [1, 2, 3, 0, 4, 5, 6, 7, 8] rfl ?_
          refine g_iincN (L' := [(0, .ref u0), (1, .int (nI w)), (2, .int (nI p)), (3, .int (orN o_)), (4, .int (nI (1 + 1))), (5, .int X5), (6, .int Y6), (7, .int (((nI 12) * Y6) + X5)), (8, .int (nI 0))]) O dX9_calmest_128 4 rfl (by decide) [1, 2, 3, 4, 0, 5, 6, 7, 8] rfl ?_
          refine g_goto (tgt := 6) O dX9_calmest_131 (by decide) ?_
          refine g_locals (L' := [(0, .ref u0), (1, .int (nI w)), (2, .int (nI p)), (3, .int (orN o_)), (4, .int (nI (1 + 1)))]) [0, 1, 2, 3, 4] rfl ?_
          exact ih_ 2 o_ (by first | assumption | omega | rfl) (hq.symm) (by rw [← hq]; exact fun f hf => cmO_lt _ f hf) (by omega)
        ·
          have hnb : nbP p 1 = rchP X5 Y6 := by rw [hX5, hY6]; simp only [nbP, m1_e, nI_add, Nat.add_zero]
          rw [Bool.and_eq_true] at c_25
          obtain ⟨⟨a_, ha, hXa⟩, ⟨d_, hd, hYd⟩⟩ := And.intro ((rgB_iff (by decide)).mp c_25.1) ((rgB_iff (by decide)).mp c_25.2)
          have hr : nbP p 1 = some (12 * d_ + a_) := by rw [hnb, hXa, hYd, rchP_s ha hd, show d_ * 12 + a_ = 12 * d_ + a_ by omega]
          refine g_eq (L' := [(0, .ref u0), (1, .int (nI w)), (2, .int (nI p)), (3, .int (orN o_)), (4, .int (nI 1)), (5, .int (nI a_)), (6, .int (nI d_)), (7, .int (nI (12 * d_ + a_)))]) rfl (by rw [hXa, hYd, pk_mul, nI_add]) rfl ?_
          cases o_ with
          | none =>
            refine g_eq (L' := [(0, .ref u0), (1, .int (nI w)), (2, .int (nI p)), (3, .int (-5)), (4, .int (nI 1)), (5, .int (nI a_)), (6, .int (nI d_)), (7, .int (nI (12 * d_ + a_)))]) rfl rfl rfl ?_
            have hq : cmO (SW w) p (1 + 1) = some (12 * d_ + a_) := by simp only [cmO]; rw [← ho, hr]; rfl
            refine g_iload_n O dX9_calmest_87 3 rfl rfl ?_
            refine g_bipush (x := (-5)) O dX9_calmest_88 (by decide +kernel) ?_
            refine g_icmp_eq (tgt := 109) O dX9_calmest_90 (by decide) (fun c_27 => ?_) (fun c_27 => absurd c_27 (fun h => h rfl))
            refine g_iconst (x := (nI 1)) O dX9_calmest_109 (by decide +kernel) ?_
            refine g_goto (tgt := 114) O dX9_calmest_110 (by decide) ?_
            refine g_istore (L' := [(0, .ref u0), (1, .int (nI w)), (2, .int (nI p)), (3, .int (-5)), (4, .int (nI 1)), (5, .int (nI a_)), (6, .int (nI d_)), (7, .int (nI (12 * d_ + a_))), (8, .int (nI 1))]) O dX9_calmest_114 (by decide) [1, 2, 3, 4, 5, 6, 7, 8, 0] rfl ?_
            refine g_iload O dX9_calmest_116 8 rfl ?_
            refine g_if_eqN (tgt := 126) O (by omega) dX9_calmest_118 (by decide) (fun c_28 => absurd c_28 (by decide)) (fun c_28 => ?_)
            refine g_iload O dX9_calmest_121 7 rfl ?_
            refine g_goto (tgt := 127) O dX9_calmest_123 (by decide) ?_
            refine g_istore_n (L' := [(0, .ref u0), (1, .int (nI w)), (2, .int (nI p)), (3, .int (nI (12 * d_ + a_))), (4, .int (nI 1)), (5, .int (nI a_)), (6, .int (nI d_)), (7, .int (nI (12 * d_ + a_))), (8, .int (nI 1))]) O dX9_calmest_127 rfl (by decide) [1, 2, 3, 0, 4, 5, 6, 7, 8] rfl ?_
            refine g_iincN (L' := [(0, .ref u0), (1, .int (nI w)), (2, .int (nI p)), (3, .int (nI (12 * d_ + a_))), (4, .int (nI (1 + 1))), (5, .int (nI a_)), (6, .int (nI d_)), (7, .int (nI (12 * d_ + a_))), (8, .int (nI 1))]) O dX9_calmest_128 4 rfl (by decide) [1, 2, 3, 4, 0, 5, 6, 7, 8] rfl ?_
            refine g_goto (tgt := 6) O dX9_calmest_131 (by decide) ?_
            refine g_locals (L' := [(0, .ref u0), (1, .int (nI w)), (2, .int (nI p)), (3, .int (nI (12 * d_ + a_))), (4, .int (nI (1 + 1)))]) [0, 1, 2, 3, 4] rfl ?_
            exact ih_ 2 (some (12 * d_ + a_)) (by first | assumption | omega | rfl) (hq.symm) (by rw [← hq]; exact fun f hf => cmO_lt _ f hf) (by omega)
          | some f_ =>
            have hf144 := hol f_ rfl
            refine g_eq (L' := [(0, .ref u0), (1, .int (nI w)), (2, .int (nI p)), (3, .int (nI f_)), (4, .int (nI 1)), (5, .int (nI a_)), (6, .int (nI d_)), (7, .int (nI (12 * d_ + a_)))]) rfl rfl rfl ?_
            refine g_iload_n O dX9_calmest_87 3 rfl rfl ?_
            refine g_bipush (x := (-5)) O dX9_calmest_88 (by decide +kernel) ?_
            refine g_icmp_eq (tgt := 109) O dX9_calmest_90 (by decide) (fun c_29 => (by exact absurd c_29 (fun h => by have h2 := (nI_toInt (n := f_) (by omega)).symm.trans (congrArg Int32.toInt h); have h3 : (-5 : Int32).toInt = -5 := by decide +kernel; rw [h3] at h2; omega))) (fun c_29 => ?_)
            refine g_aload_n O dX9_calmest_93 0 rfl rfl ?_
            refine g_iload_n O dX9_calmest_94 1 rfl rfl ?_
            refine g_iload O dX9_calmest_95 7 rfl ?_
            refine g_callV (As := [.int (nI w), .int (nI (12 * d_ + a_))]) (wr := []) O (kX9_swingAt l D z u0 u1 u2 u3 u4 u5 u6 u7 u8 u9 u10 u11 kn ik ty ta iw w (12 * d_ + a_) (by first | assumption | omega) (by first | assumption | omega)) gX9_calmest_X9_swingAt rfl rfl rfl 2 (by decide +kernel) (by decide) (by decide) (q0 := 0) rfl rfl rfl [0, 1] [] rfl (by decide) rfl (by decide) (by decide) rfl rfl (Nat.le_of_ble_eq_true rfl) dX9_calmest_97 (fun r_30 w_31 hp => ?_)
            obtain ⟨rfl, rfl⟩ := hp
            refine g_eq (st' := [.int (SW w (12 * d_ + a_))]) (ws' := [(u0, .inr (9, [.ref u1, .ref u2, .ref u3, .ref u4, .ref u5, .ref u6, .int (nI kn), .ref u7, .int (bB ik), .ref u8, .int (nI ty), .ref u9, .int (nI ta), .int (bB iw), .ref u10, .ref u11])), (u4, .inl ((TY D)[0].1, 6912, .inl SWT))]) rfl rfl rfl ?_
            refine g_aload_n O dX9_calmest_100 0 rfl rfl ?_
            refine g_iload_n O dX9_calmest_101 1 rfl rfl ?_
            refine g_iload_n O dX9_calmest_102 3 rfl rfl ?_
            refine g_callV (As := [.int (nI w), .int (nI f_)]) (wr := []) O (kX9_swingAt l D z u0 u1 u2 u3 u4 u5 u6 u7 u8 u9 u10 u11 kn ik ty ta iw w f_ (by first | assumption | omega) (by first | assumption | omega)) gX9_calmest_X9_swingAt rfl rfl rfl 2 (by decide +kernel) (by decide) (by decide) (q0 := 0) rfl rfl rfl [0, 1] [] rfl (by decide) rfl (by decide) (by decide) rfl rfl (Nat.le_of_ble_eq_true rfl) dX9_calmest_103 (fun r_32 w_33 hp => ?_)
            obtain ⟨rfl, rfl⟩ := hp
            refine g_eq (st' := [.int (SW w f_), .int (SW w (12 * d_ + a_))]) (ws' := [(u0, .inr (9, [.ref u1, .ref u2, .ref u3, .ref u4, .ref u5, .ref u6, .int (nI kn), .ref u7, .int (bB ik), .ref u8, .int (nI ty), .ref u9, .int (nI ta), .int (bB iw), .ref u10, .ref u11])), (u4, .inl ((TY D)[0].1, 6912, .inl SWT))]) rfl rfl rfl ?_
            refine g_icmp_ge (tgt := 113) O dX9_calmest_106 (by decide) (fun c_34 => ?_) (fun c_34 => ?_)
            ·
              have hq : cmO (SW w) p (1 + 1) = some f_ := by simp only [cmO]; rw [← ho, hr]; simp only [cmS]; rw [if_neg (Int32.not_lt.mpr c_34)]
              refine g_iconst (x := (nI 0)) O dX9_calmest_113 (by decide +kernel) ?_
              refine g_istore (L' := [(0, .ref u0), (1, .int (nI w)), (2, .int (nI p)), (3, .int (nI f_)), (4, .int (nI 1)), (5, .int (nI a_)), (6, .int (nI d_)), (7, .int (nI (12 * d_ + a_))), (8, .int (nI 0))]) O dX9_calmest_114 (by decide) [1, 2, 3, 4, 5, 6, 7, 8, 0] rfl ?_
              refine g_iload O dX9_calmest_116 8 rfl ?_
              refine g_if_eqN (tgt := 126) O (by omega) dX9_calmest_118 (by decide) (fun c_35 => ?_) (fun c_35 => absurd c_35 (by decide))
              refine g_iload_n O dX9_calmest_126 3 rfl rfl ?_
              refine g_istore_n (L' := [(0, .ref u0), (1, .int (nI w)), (2, .int (nI p)), (3, .int (nI f_)), (4, .int (nI 1)), (5, .int (nI a_)), (6, .int (nI d_)), (7, .int (nI (12 * d_ + a_))), (8, .int (nI 0))]) O dX9_calmest_127 rfl (by decide) [1, 2, 3, 0, 4, 5, 6, 7, 8] rfl ?_
              refine g_iincN (L' := [(0, .ref u0), (1, .int (nI w)), (2, .int (nI p)), (3, .int (nI f_)), (4, .int (nI (1 + 1))), (5, .int (nI a_)), (6, .int (nI d_)), (7, .int (nI (12 * d_ + a_))), (8, .int (nI 0))]) O dX9_calmest_128 4 rfl (by decide) [1, 2, 3, 4, 0, 5, 6, 7, 8] rfl ?_
              refine g_goto (tgt := 6) O dX9_calmest_131 (by decide) ?_
              refine g_locals (L' := [(0, .ref u0), (1, .int (nI w)), (2, .int (nI p)), (3, .int (nI f_)), (4, .int (nI (1 + 1)))]) [0, 1, 2, 3, 4] rfl ?_
              exact ih_ 2 (some (f_)) (by first | assumption | omega | rfl) (hq.symm) (by rw [← hq]; exact fun f hf => cmO_lt _ f hf) (by omega)
            ·
              have hq : cmO (SW w) p (1 + 1) = some (12 * d_ + a_) := by simp only [cmO]; rw [← ho, hr]; simp only [cmS]; rw [if_pos (Int32.not_le.mp c_34)]
              refine g_iconst (x := (nI 1)) O dX9_calmest_109 (by decide +kernel) ?_
              refine g_goto (tgt := 114) O dX9_calmest_110 (by decide) ?_
              refine g_istore (L' := [(0, .ref u0), (1, .int (nI w)), (2, .int (nI p)), (3, .int (nI f_)), (4, .int (nI 1)), (5, .int (nI a_)), (6, .int (nI d_)), (7, .int (nI (12 * d_ + a_))), (8, .int (nI 1))]) O dX9_calmest_114 (by decide) [1, 2, 3, 4, 5, 6, 7, 8, 0] rfl ?_
              refine g_iload O dX9_calmest_116 8 rfl ?_
              refine g_if_eqN (tgt := 126) O (by omega) dX9_calmest_118 (by decide) (fun c_36 => absurd c_36 (by decide)) (fun c_36 => ?_)
              refine g_iload O dX9_calmest_121 7 rfl ?_
              refine g_goto (tgt := 127) O dX9_calmest_123 (by decide) ?_
              refine g_istore_n (L' := [(0, .ref u0), (1, .int (nI w)), (2, .int (nI p)), (3, .int (nI (12 * d_ + a_))), (4, .int (nI 1)), (5, .int (nI a_)), (6, .int (nI d_)), (7, .int (nI (12 * d_ + a_))), (8, .int (nI 1))]) O dX9_calmest_127 rfl (by decide) [1, 2, 3, 0, 4, 5, 6, 7, 8] rfl ?_
              refine g_iincN (L' := [(0, .ref u0), (1, .int (nI w)), (2, .int (nI p)), (3, .int (nI (12 * d_ + a_))), (4, .int (nI (1 + 1))), (5, .int (nI a_)), (6, .int (nI d_)), (7, .int (nI (12 * d_ + a_))), (8, .int (nI 1))]) O dX9_calmest_128 4 rfl (by decide) [1, 2, 3, 4, 0, 5, 6, 7, 8] rfl ?_
              refine g_goto (tgt := 6) O dX9_calmest_131 (by decide) ?_
              refine g_locals (L' := [(0, .ref u0), (1, .int (nI w)), (2, .int (nI p)), (3, .int (nI (12 * d_ + a_))), (4, .int (nI (1 + 1)))]) [0, 1, 2, 3, 4] rfl ?_
              exact ih_ 2 (some (12 * d_ + a_)) (by first | assumption | omega | rfl) (hq.symm) (by rw [← hq]; exact fun f hf => cmO_lt _ f hf) (by omega)
      ·
        refine g_iload O dX9_calmest_6 4 rfl ?_
        refine g_iconst (x := (nI 4)) O dX9_calmest_8 (by decide +kernel) ?_
        refine g_icmp_geN (tgt := 134) O (by omega) (by omega) dX9_calmest_9 (by decide) (fun c_37 => absurd c_37 (by decide)) (fun c_37 => ?_)
        refine g_iload_n O dX9_calmest_12 2 rfl rfl ?_
        refine g_bipush (x := (nI 12)) O dX9_calmest_13 (by decide +kernel) ?_
        refine g_iremN O (by omega) (by omega) (by omega) dX9_calmest_15 ?_
        refine g_iload O dX9_calmest_16 4 rfl ?_
        refine g_iconst (x := (nI 1)) O dX9_calmest_18 (by decide +kernel) ?_
        refine g_icmp_neN (tgt := 26) O (by omega) (by omega) dX9_calmest_19 (by decide) (fun c_38 => ?_) (fun c_38 => absurd c_38 (by decide))
        refine g_iload O dX9_calmest_26 4 rfl ?_
        refine g_iconst (x := (nI 2)) O dX9_calmest_28 (by decide +kernel) ?_
        refine g_icmp_neN (tgt := 36) O (by omega) (by omega) dX9_calmest_29 (by decide) (fun c_39 => absurd c_39 (by decide)) (fun c_39 => ?_)
        refine g_iconst (x := (nI 1)) O dX9_calmest_32 (by decide +kernel) ?_
        refine g_goto (tgt := 37) O dX9_calmest_33 (by decide) ?_
        refine g_iaddN O dX9_calmest_37 ?_
        refine g_istore (L' := [(0, .ref u0), (1, .int (nI w)), (2, .int (nI p)), (3, .int (orN o_)), (4, .int (nI 2)), (5, .int (nI ((p % 12) + 1)))]) O dX9_calmest_38 (by decide) [1, 2, 3, 4, 5, 0] rfl ?_
        obtain ⟨X5, hX5⟩ : ∃ x, x = (nI ((p % 12) + 1)) := ⟨_, rfl⟩
        refine g_eq (L' := [(0, .ref u0), (1, .int (nI w)), (2, .int (nI p)), (3, .int (orN o_)), (4, .int (nI 2)), (5, .int X5)]) rfl (by rw [hX5]) rfl ?_
        refine g_iload_n O dX9_calmest_40 2 rfl rfl ?_
        refine g_bipush (x := (nI 12)) O dX9_calmest_41 (by decide +kernel) ?_
        refine g_idivN O (by omega) (by omega) (by omega) dX9_calmest_43 ?_
        refine g_iload O dX9_calmest_44 4 rfl ?_
        refine g_if_neN (tgt := 53) O (by omega) dX9_calmest_46 (by decide) (fun c_40 => ?_) (fun c_40 => absurd c_40 (by decide))
        refine g_iload O dX9_calmest_53 4 rfl ?_
        refine g_iconst (x := (nI 3)) O dX9_calmest_55 (by decide +kernel) ?_
        refine g_icmp_neN (tgt := 63) O (by omega) (by omega) dX9_calmest_56 (by decide) (fun c_41 => ?_) (fun c_41 => absurd c_41 (by decide))
        refine g_iconst (x := (nI 0)) O dX9_calmest_63 (by decide +kernel) ?_
        refine g_iaddN O dX9_calmest_64 ?_
        refine g_istore (L' := [(0, .ref u0), (1, .int (nI w)), (2, .int (nI p)), (3, .int (orN o_)), (4, .int (nI 2)), (5, .int X5), (6, .int (nI ((p / 12) + 0)))]) O dX9_calmest_65 (by decide) [1, 2, 3, 4, 5, 6, 0] rfl ?_
        obtain ⟨Y6, hY6⟩ : ∃ x, x = (nI ((p / 12) + 0)) := ⟨_, rfl⟩
        refine g_eq (L' := [(0, .ref u0), (1, .int (nI w)), (2, .int (nI p)), (3, .int (orN o_)), (4, .int (nI 2)), (5, .int X5), (6, .int Y6)]) rfl (by rw [hY6]) rfl ?_
        refine g_bipush (x := (nI 12)) O dX9_calmest_67 (by decide +kernel) ?_
        refine g_iload O dX9_calmest_69 6 rfl ?_
        refine g_imul O dX9_calmest_71 ?_
        refine g_iload O dX9_calmest_72 5 rfl ?_
        refine g_iadd O dX9_calmest_74 ?_
        refine g_istore (L' := [(0, .ref u0), (1, .int (nI w)), (2, .int (nI p)), (3, .int (orN o_)), (4, .int (nI 2)), (5, .int X5), (6, .int Y6), (7, .int (((nI 12) * Y6) + X5))]) O dX9_calmest_75 (by decide) [1, 2, 3, 4, 5, 6, 7, 0] rfl ?_
        refine g_iload O dX9_calmest_77 5 rfl ?_
        refine g_iload O dX9_calmest_79 6 rfl ?_
        refine g_callS (As := [.int X5, .int Y6]) (wr := [(u0, .inr (9, [.ref u1, .ref u2, .ref u3, .ref u4, .ref u5, .ref u6, .int (nI kn), .ref u7, .int (bB ik), .ref u8, .int (nI ty), .ref u9, .int (nI ta), .int (bB iw), .ref u10, .ref u11])), (u4, .inl ((TY D)[0].1, 6912, .inl SWT))]) O (kX9_isOn l D z X5 Y6 ) gX9_calmest_X9_isOn rfl rfl rfl 2 (by decide +kernel) (by decide) (by decide) [] [0, 1] rfl (by decide) rfl (by decide) (by decide) rfl rfl (Nat.le_of_ble_eq_true rfl) dX9_calmest_81 (fun r_42 w_43 hp => ?_)
        obtain ⟨rfl, rfl⟩ := hp
        refine g_eq (st' := [.int (bB (rgB X5 12 && rgB Y6 12))]) (ws' := [(u0, .inr (9, [.ref u1, .ref u2, .ref u3, .ref u4, .ref u5, .ref u6, .int (nI kn), .ref u7, .int (bB ik), .ref u8, .int (nI ty), .ref u9, .int (nI ta), .int (bB iw), .ref u10, .ref u11])), (u4, .inl ((TY D)[0].1, 6912, .inl SWT))]) rfl rfl rfl ?_
        refine g_if_eqB (tgt := 113) O dX9_calmest_84 (by decide) (fun c_44 => ?_) (fun c_44 => ?_)
        ·
          have hnb : nbP p 2 = rchP X5 Y6 := by rw [hX5, hY6]; simp only [nbP, m1_e, nI_add, Nat.add_zero]
          have hq : cmO (SW w) p (2 + 1) = o_ := by simp only [cmO]; rw [← ho, hnb, rchP_n c_44]; rfl
          refine g_iconst (x := (nI 0)) O dX9_calmest_113 (by decide +kernel) ?_
          refine g_istore (L' := [(0, .ref u0), (1, .int (nI w)), (2, .int (nI p)), (3, .int (orN o_)), (4, .int (nI 2)), (5, .int X5), (6, .int Y6), (7, .int (((nI 12) * Y6) + X5)), (8, .int (nI 0))]) O dX9_calmest_114 (by decide) [1, 2, 3, 4, 5, 6, 7, 8, 0] rfl ?_
          refine g_iload O dX9_calmest_116 8 rfl ?_
          refine g_if_eqN (tgt := 126) O (by omega) dX9_calmest_118 (by decide) (fun c_45 => ?_) (fun c_45 => absurd c_45 (by decide))
          refine g_iload_n O dX9_calmest_126 3 rfl rfl ?_
          refine g_istore_n (L' := [(0, .ref u0), (1, .int (nI w)), (2, .int (nI p)), (3, .int (orN o_)), (4, .int (nI 2)), (5, .int X5), (6, .int Y6), (7, .int (((nI 12) * Y6) + X5)), (8, .int (nI 0))]) O dX9_calmest_127 rfl (by decide) [1, 2, 3, 0, 4, 5, 6, 7, 8] rfl ?_
          refine g_iincN (L' := [(0, .ref u0), (1, .int (nI w)), (2, .int (nI p)), (3, .int (orN o_)), (4, .int (nI (2 + 1))), (5, .int X5), (6, .int Y6), (7, .int (((nI 12) * Y6) + X5)), (8, .int (nI 0))]) O dX9_calmest_128 4 rfl (by decide) [1, 2, 3, 4, 0, 5, 6, 7, 8] rfl ?_
          refine g_goto (tgt := 6) O dX9_calmest_131 (by decide) ?_
          refine g_locals (L' := [(0, .ref u0), (1, .int (nI w)), (2, .int (nI p)), (3, .int (orN o_)), (4, .int (nI (2 + 1)))]) [0, 1, 2, 3, 4] rfl ?_
          exact ih_ 3 o_ (by first | assumption | omega | rfl) (hq.symm) (by rw [← hq]; exact fun f hf => cmO_lt _ f hf) (by omega)
        ·
          have hnb : nbP p 2 = rchP X5 Y6 := by rw [hX5, hY6]; simp only [nbP, m1_e, nI_add, Nat.add_zero]
          rw [Bool.and_eq_true] at c_44
          obtain ⟨⟨a_, ha, hXa⟩, ⟨d_, hd, hYd⟩⟩ := And.intro ((rgB_iff (by decide)).mp c_44.1) ((rgB_iff (by decide)).mp c_44.2)
          have hr : nbP p 2 = some (12 * d_ + a_) := by rw [hnb, hXa, hYd, rchP_s ha hd, show d_ * 12 + a_ = 12 * d_ + a_ by omega]
          refine g_eq (L' := [(0, .ref u0), (1, .int (nI w)), (2, .int (nI p)), (3, .int (orN o_)), (4, .int (nI 2)), (5, .int (nI a_)), (6, .int (nI d_)), (7, .int (nI (12 * d_ + a_)))]) rfl (by rw [hXa, hYd, pk_mul, nI_add]) rfl ?_
          cases o_ with
          | none =>
            refine g_eq (L' := [(0, .ref u0), (1, .int (nI w)), (2, .int (nI p)), (3, .int (-5)), (4, .int (nI 2)), (5, .int (nI a_)), (6, .int (nI d_)), (7, .int (nI (12 * d_ + a_)))]) rfl rfl rfl ?_
            have hq : cmO (SW w) p (2 + 1) = some (12 * d_ + a_) := by simp only [cmO]; rw [← ho, hr]; rfl
            refine g_iload_n O dX9_calmest_87 3 rfl rfl ?_
            refine g_bipush (x := (-5)) O dX9_calmest_88 (by decide +kernel) ?_
            refine g_icmp_eq (tgt := 109) O dX9_calmest_90 (by decide) (fun c_46 => ?_) (fun c_46 => absurd c_46 (fun h => h rfl))
            refine g_iconst (x := (nI 1)) O dX9_calmest_109 (by decide +kernel) ?_
            refine g_goto (tgt := 114) O dX9_calmest_110 (by decide) ?_
            refine g_istore (L' := [(0, .ref u0), (1, .int (nI w)), (2, .int (nI p)), (3, .int (-5)), (4, .int (nI 2)), (5, .int (nI a_)), (6, .int (nI d_)), (7, .int (nI (12 * d_ + a_))), (8, .int (nI 1))]) O dX9_calmest_114 (by decide) [1, 2, 3, 4, 5, 6, 7, 8, 0] rfl ?_
            refine g_iload O dX9_calmest_116 8 rfl ?_
            refine g_if_eqN (tgt := 126) O (by omega) dX9_calmest_118 (by decide) (fun c_47 => absurd c_47 (by decide)) (fun c_47 => ?_)
            refine g_iload O dX9_calmest_121 7 rfl ?_
            refine g_goto (tgt := 127) O dX9_calmest_123 (by decide) ?_
            refine g_istore_n (L' := [(0, .ref u0), (1, .int (nI w)), (2, .int (nI p)), (3, .int (nI (12 * d_ + a_))), (4, .int (nI 2)), (5, .int (nI a_)), (6, .int (nI d_)), (7, .int (nI (12 * d_ + a_))), (8, .int (nI 1))]) O dX9_calmest_127 rfl (by decide) [1, 2, 3, 0, 4, 5, 6, 7, 8] rfl ?_
            refine g_iincN (L' := [(0, .ref u0), (1, .int (nI w)), (2, .int (nI p)), (3, .int (nI (12 * d_ + a_))), (4, .int (nI (2 + 1))), (5, .int (nI a_)), (6, .int (nI d_)), (7, .int (nI (12 * d_ + a_))), (8, .int (nI 1))]) O dX9_calmest_128 4 rfl (by decide) [1, 2, 3, 4, 0, 5, 6, 7, 8] rfl ?_
            refine g_goto (tgt := 6) O dX9_calmest_131 (by decide) ?_
            refine g_locals (L' := [(0, .ref u0), (1, .int (nI w)), (2, .int (nI p)), (3, .int (nI (12 * d_ + a_))), (4, .int (nI (2 + 1)))]) [0, 1, 2, 3, 4] rfl ?_
            exact ih_ 3 (some (12 * d_ + a_)) (by first | assumption | omega | rfl) (hq.symm) (by rw [← hq]; exact fun f hf => cmO_lt _ f hf) (by omega)
          | some f_ =>
            have hf144 := hol f_ rfl
            refine g_eq (L' := [(0, .ref u0), (1, .int (nI w)), (2, .int (nI p)), (3, .int (nI f_)), (4, .int (nI 2)), (5, .int (nI a_)), (6, .int (nI d_)), (7, .int (nI (12 * d_ + a_)))]) rfl rfl rfl ?_
            refine g_iload_n O dX9_calmest_87 3 rfl rfl ?_
            refine g_bipush (x := (-5)) O dX9_calmest_88 (by decide +kernel) ?_
            refine g_icmp_eq (tgt := 109) O dX9_calmest_90 (by decide) (fun c_48 => (by exact absurd c_48 (fun h => by have h2 := (nI_toInt (n := f_) (by omega)).symm.trans (congrArg Int32.toInt h); have h3 : (-5 : Int32).toInt = -5 := by decide +kernel; rw [h3] at h2; omega))) (fun c_48 => ?_)
            refine g_aload_n O dX9_calmest_93 0 rfl rfl ?_
            refine g_iload_n O dX9_calmest_94 1 rfl rfl ?_
            refine g_iload O dX9_calmest_95 7 rfl ?_
            refine g_callV (As := [.int (nI w), .int (nI (12 * d_ + a_))]) (wr := []) O (kX9_swingAt l D z u0 u1 u2 u3 u4 u5 u6 u7 u8 u9 u10 u11 kn ik ty ta iw w (12 * d_ + a_) (by first | assumption | omega) (by first | assumption | omega)) gX9_calmest_X9_swingAt rfl rfl rfl 2 (by decide +kernel) (by decide) (by decide) (q0 := 0) rfl rfl rfl [0, 1] [] rfl (by decide) rfl (by decide) (by decide) rfl rfl (Nat.le_of_ble_eq_true rfl) dX9_calmest_97 (fun r_49 w_50 hp => ?_)
            obtain ⟨rfl, rfl⟩ := hp
            refine g_eq (st' := [.int (SW w (12 * d_ + a_))]) (ws' := [(u0, .inr (9, [.ref u1, .ref u2, .ref u3, .ref u4, .ref u5, .ref u6, .int (nI kn), .ref u7, .int (bB ik), .ref u8, .int (nI ty), .ref u9, .int (nI ta), .int (bB iw), .ref u10, .ref u11])), (u4, .inl ((TY D)[0].1, 6912, .inl SWT))]) rfl rfl rfl ?_
            refine g_aload_n O dX9_calmest_100 0 rfl rfl ?_
            refine g_iload_n O dX9_calmest_101 1 rfl rfl ?_
            refine g_iload_n O dX9_calmest_102 3 rfl rfl ?_
            refine g_callV (As := [.int (nI w), .int (nI f_)]) (wr := []) O (kX9_swingAt l D z u0 u1 u2 u3 u4 u5 u6 u7 u8 u9 u10 u11 kn ik ty ta iw w f_ (by first | assumption | omega) (by first | assumption | omega)) gX9_calmest_X9_swingAt rfl rfl rfl 2 (by decide +kernel) (by decide) (by decide) (q0 := 0) rfl rfl rfl [0, 1] [] rfl (by decide) rfl (by decide) (by decide) rfl rfl (Nat.le_of_ble_eq_true rfl) dX9_calmest_103 (fun r_51 w_52 hp => ?_)
            obtain ⟨rfl, rfl⟩ := hp
            refine g_eq (st' := [.int (SW w f_), .int (SW w (12 * d_ + a_))]) (ws' := [(u0, .inr (9, [.ref u1, .ref u2, .ref u3, .ref u4, .ref u5, .ref u6, .int (nI kn), .ref u7, .int (bB ik), .ref u8, .int (nI ty), .ref u9, .int (nI ta), .int (bB iw), .ref u10, .ref u11])), (u4, .inl ((TY D)[0].1, 6912, .inl SWT))]) rfl rfl rfl ?_
            refine g_icmp_ge (tgt := 113) O dX9_calmest_106 (by decide) (fun c_53 => ?_) (fun c_53 => ?_)
            ·
              have hq : cmO (SW w) p (2 + 1) = some f_ := by simp only [cmO]; rw [← ho, hr]; simp only [cmS]; rw [if_neg (Int32.not_lt.mpr c_53)]
              refine g_iconst (x := (nI 0)) O dX9_calmest_113 (by decide +kernel) ?_
              refine g_istore (L' := [(0, .ref u0), (1, .int (nI w)), (2, .int (nI p)), (3, .int (nI f_)), (4, .int (nI 2)), (5, .int (nI a_)), (6, .int (nI d_)), (7, .int (nI (12 * d_ + a_))), (8, .int (nI 0))]) O dX9_calmest_114 (by decide) [1, 2, 3, 4, 5, 6, 7, 8, 0] rfl ?_
              refine g_iload O dX9_calmest_116 8 rfl ?_
              refine g_if_eqN (tgt := 126) O (by omega) dX9_calmest_118 (by decide) (fun c_54 => ?_) (fun c_54 => absurd c_54 (by decide))
              refine g_iload_n O dX9_calmest_126 3 rfl rfl ?_
              refine g_istore_n (L' := [(0, .ref u0), (1, .int (nI w)), (2, .int (nI p)), (3, .int (nI f_)), (4, .int (nI 2)), (5, .int (nI a_)), (6, .int (nI d_)), (7, .int (nI (12 * d_ + a_))), (8, .int (nI 0))]) O dX9_calmest_127 rfl (by decide) [1, 2, 3, 0, 4, 5, 6, 7, 8] rfl ?_
              refine g_iincN (L' := [(0, .ref u0), (1, .int (nI w)), (2, .int (nI p)), (3, .int (nI f_)), (4, .int (nI (2 + 1))), (5, .int (nI a_)), (6, .int (nI d_)), (7, .int (nI (12 * d_ + a_))), (8, .int (nI 0))]) O dX9_calmest_128 4 rfl (by decide) [1, 2, 3, 4, 0, 5, 6, 7, 8] rfl ?_
              refine g_goto (tgt := 6) O dX9_calmest_131 (by decide) ?_
              refine g_locals (L' := [(0, .ref u0), (1, .int (nI w)), (2, .int (nI p)), (3, .int (nI f_)), (4, .int (nI (2 + 1)))]) [0, 1, 2, 3, 4] rfl ?_
              exact ih_ 3 (some (f_)) (by first | assumption | omega | rfl) (hq.symm) (by rw [← hq]; exact fun f hf => cmO_lt _ f hf) (by omega)
            ·
              have hq : cmO (SW w) p (2 + 1) = some (12 * d_ + a_) := by simp only [cmO]; rw [← ho, hr]; simp only [cmS]; rw [if_pos (Int32.not_le.mp c_53)]
              refine g_iconst (x := (nI 1)) O dX9_calmest_109 (by decide +kernel) ?_
              refine g_goto (tgt := 114) O dX9_calmest_110 (by decide) ?_
              refine g_istore (L' := [(0, .ref u0), (1, .int (nI w)), (2, .int (nI p)), (3, .int (nI f_)), (4, .int (nI 2)), (5, .int (nI a_)), (6, .int (nI d_)), (7, .int (nI (12 * d_ + a_))), (8, .int (nI 1))]) O dX9_calmest_114 (by decide) [1, 2, 3, 4, 5, 6, 7, 8, 0] rfl ?_
              refine g_iload O dX9_calmest_116 8 rfl ?_
              refine g_if_eqN (tgt := 126) O (by omega) dX9_calmest_118 (by decide) (fun c_55 => absurd c_55 (by decide)) (fun c_55 => ?_)
              refine g_iload O dX9_calmest_121 7 rfl ?_
              refine g_goto (tgt := 127) O dX9_calmest_123 (by decide) ?_
              refine g_istore_n (L' := [(0, .ref u0), (1, .int (nI w)), (2, .int (nI p)), (3, .int (nI (12 * d_ + a_))), (4, .int (nI 2)), (5, .int (nI a_)), (6, .int (nI d_)), (7, .int (nI (12 * d_ + a_))), (8, .int (nI 1))]) O dX9_calmest_127 rfl (by decide) [1, 2, 3, 0, 4, 5, 6, 7, 8] rfl ?_
              refine g_iincN (L' := [(0, .ref u0), (1, .int (nI w)), (2, .int (nI p)), (3, .int (nI (12 * d_ + a_))), (4, .int (nI (2 + 1))), (5, .int (nI a_)), (6, .int (nI d_)), (7, .int (nI (12 * d_ + a_))), (8, .int (nI 1))]) O dX9_calmest_128 4 rfl (by decide) [1, 2, 3, 4, 0, 5, 6, 7, 8] rfl ?_
              refine g_goto (tgt := 6) O dX9_calmest_131 (by decide) ?_
              refine g_locals (L' := [(0, .ref u0), (1, .int (nI w)), (2, .int (nI p)), (3, .int (nI (12 * d_ + a_))), (4, .int (nI (2 + 1)))]) [0, 1, 2, 3, 4] rfl ?_
              exact ih_ 3 (some (12 * d_ + a_)) (by first | assumption | omega | rfl) (hq.symm) (by rw [← hq]; exact fun f hf => cmO_lt _ f hf) (by omega)
      ·
        refine g_iload O dX9_calmest_6 4 rfl ?_
        refine g_iconst (x := (nI 4)) O dX9_calmest_8 (by decide +kernel) ?_
        refine g_icmp_geN (tgt := 134) O (by omega) (by omega) dX9_calmest_9 (by decide) (fun c_56 => absurd c_56 (by decide)) (fun c_56 => ?_)
        refine g_iload_n O dX9_calmest_12 2 rfl rfl ?_
        refine g_bipush (x := (nI 12)) O dX9_calmest_13 (by decide +kernel) ?_
        refine g_iremN O (by omega) (by omega) (by omega) dX9_calmest_15 ?_
        refine g_iload O dX9_calmest_16 4 rfl ?_
        refine g_iconst (x := (nI 1)) O dX9_calmest_18 (by decide +kernel) ?_
        refine g_icmp_neN (tgt := 26) O (by omega) (by omega) dX9_calmest_19 (by decide) (fun c_57 => ?_) (fun c_57 => absurd c_57 (by decide))
        refine g_iload O dX9_calmest_26 4 rfl ?_
        refine g_iconst (x := (nI 2)) O dX9_calmest_28 (by decide +kernel) ?_
        refine g_icmp_neN (tgt := 36) O (by omega) (by omega) dX9_calmest_29 (by decide) (fun c_58 => ?_) (fun c_58 => absurd c_58 (by decide))
        refine g_iconst (x := (nI 0)) O dX9_calmest_36 (by decide +kernel) ?_
        refine g_iaddN O dX9_calmest_37 ?_
        refine g_istore (L' := [(0, .ref u0), (1, .int (nI w)), (2, .int (nI p)), (3, .int (orN o_)), (4, .int (nI 3)), (5, .int (nI ((p % 12) + 0)))]) O dX9_calmest_38 (by decide) [1, 2, 3, 4, 5, 0] rfl ?_
        obtain ⟨X5, hX5⟩ : ∃ x, x = (nI ((p % 12) + 0)) := ⟨_, rfl⟩
        refine g_eq (L' := [(0, .ref u0), (1, .int (nI w)), (2, .int (nI p)), (3, .int (orN o_)), (4, .int (nI 3)), (5, .int X5)]) rfl (by rw [hX5]) rfl ?_
        refine g_iload_n O dX9_calmest_40 2 rfl rfl ?_
        refine g_bipush (x := (nI 12)) O dX9_calmest_41 (by decide +kernel) ?_
        refine g_idivN O (by omega) (by omega) (by omega) dX9_calmest_43 ?_
        refine g_iload O dX9_calmest_44 4 rfl ?_
        refine g_if_neN (tgt := 53) O (by omega) dX9_calmest_46 (by decide) (fun c_59 => ?_) (fun c_59 => absurd c_59 (by decide))
        refine g_iload O dX9_calmest_53 4 rfl ?_
        refine g_iconst (x := (nI 3)) O dX9_calmest_55 (by decide +kernel) ?_
        refine g_icmp_neN (tgt := 63) O (by omega) (by omega) dX9_calmest_56 (by decide) (fun c_60 => absurd c_60 (by decide)) (fun c_60 => ?_)
        refine g_iconst (x := (nI 1)) O dX9_calmest_59 (by decide +kernel) ?_
        refine g_goto (tgt := 64) O dX9_calmest_60 (by decide) ?_
        refine g_iaddN O dX9_calmest_64 ?_
        refine g_istore (L' := [(0, .ref u0), (1, .int (nI w)), (2, .int (nI p)), (3, .int (orN o_)), (4, .int (nI 3)), (5, .int X5), (6, .int (nI ((p / 12) + 1)))]) O dX9_calmest_65 (by decide) [1, 2, 3, 4, 5, 6, 0] rfl ?_
        obtain ⟨Y6, hY6⟩ : ∃ x, x = (nI ((p / 12) + 1)) := ⟨_, rfl⟩
        refine g_eq (L' := [(0, .ref u0), (1, .int (nI w)), (2, .int (nI p)), (3, .int (orN o_)), (4, .int (nI 3)), (5, .int X5), (6, .int Y6)]) rfl (by rw [hY6]) rfl ?_
        refine g_bipush (x := (nI 12)) O dX9_calmest_67 (by decide +kernel) ?_
        refine g_iload O dX9_calmest_69 6 rfl ?_
        refine g_imul O dX9_calmest_71 ?_
        refine g_iload O dX9_calmest_72 5 rfl ?_
        refine g_iadd O dX9_calmest_74 ?_
        refine g_istore (L' := [(0, .ref u0), (1, .int (nI w)), (2, .int (nI p)), (3, .int (orN o_)), (4, .int (nI 3)), (5, .int X5), (6, .int Y6), (7, .int (((nI 12) * Y6) + X5))]) O dX9_calmest_75 (by decide) [1, 2, 3, 4, 5, 6, 7, 0] rfl ?_
        refine g_iload O dX9_calmest_77 5 rfl ?_
        refine g_iload O dX9_calmest_79 6 rfl ?_
        refine g_callS (As := [.int X5, .int Y6]) (wr := [(u0, .inr (9, [.ref u1, .ref u2, .ref u3, .ref u4, .ref u5, .ref u6, .int (nI kn), .ref u7, .int (bB ik), .ref u8, .int (nI ty), .ref u9, .int (nI ta), .int (bB iw), .ref u10, .ref u11])), (u4, .inl ((TY D)[0].1, 6912, .inl SWT))]) O (kX9_isOn l D z X5 Y6 ) gX9_calmest_X9_isOn rfl rfl rfl 2 (by decide +kernel) (by decide) (by decide) [] [0, 1] rfl (by decide) rfl (by decide) (by decide) rfl rfl (Nat.le_of_ble_eq_true rfl) dX9_calmest_81 (fun r_61 w_62 hp => ?_)
        obtain ⟨rfl, rfl⟩ := hp
        refine g_eq (st' := [.int (bB (rgB X5 12 && rgB Y6 12))]) (ws' := [(u0, .inr (9, [.ref u1, .ref u2, .ref u3, .ref u4, .ref u5, .ref u6, .int (nI kn), .ref u7, .int (bB ik), .ref u8, .int (nI ty), .ref u9, .int (nI ta), .int (bB iw), .ref u10, .ref u11])), (u4, .inl ((TY D)[0].1, 6912, .inl SWT))]) rfl rfl rfl ?_
        refine g_if_eqB (tgt := 113) O dX9_calmest_84 (by decide) (fun c_63 => ?_) (fun c_63 => ?_)
        ·
          have hnb : nbP p 3 = rchP X5 Y6 := by rw [hX5, hY6]; simp only [nbP, m1_e, nI_add, Nat.add_zero]
          have hq : cmO (SW w) p (3 + 1) = o_ := by simp only [cmO]; rw [← ho, hnb, rchP_n c_63]; rfl
          refine g_iconst (x := (nI 0)) O dX9_calmest_113 (by decide +kernel) ?_
          refine g_istore (L' := [(0, .ref u0), (1, .int (nI w)), (2, .int (nI p)), (3, .int (orN o_)), (4, .int (nI 3)), (5, .int X5), (6, .int Y6), (7, .int (((nI 12) * Y6) + X5)), (8, .int (nI 0))]) O dX9_calmest_114 (by decide) [1, 2, 3, 4, 5, 6, 7, 8, 0] rfl ?_
          refine g_iload O dX9_calmest_116 8 rfl ?_
          refine g_if_eqN (tgt := 126) O (by omega) dX9_calmest_118 (by decide) (fun c_64 => ?_) (fun c_64 => absurd c_64 (by decide))
          refine g_iload_n O dX9_calmest_126 3 rfl rfl ?_
          refine g_istore_n (L' := [(0, .ref u0), (1, .int (nI w)), (2, .int (nI p)), (3, .int (orN o_)), (4, .int (nI 3)), (5, .int X5), (6, .int Y6), (7, .int (((nI 12) * Y6) + X5)), (8, .int (nI 0))]) O dX9_calmest_127 rfl (by decide) [1, 2, 3, 0, 4, 5, 6, 7, 8] rfl ?_
          refine g_iincN (L' := [(0, .ref u0), (1, .int (nI w)), (2, .int (nI p)), (3, .int (orN o_)), (4, .int (nI (3 + 1))), (5, .int X5), (6, .int Y6), (7, .int (((nI 12) * Y6) + X5)), (8, .int (nI 0))]) O dX9_calmest_128 4 rfl (by decide) [1, 2, 3, 4, 0, 5, 6, 7, 8] rfl ?_
          refine g_goto (tgt := 6) O dX9_calmest_131 (by decide) ?_
          refine g_locals (L' := [(0, .ref u0), (1, .int (nI w)), (2, .int (nI p)), (3, .int (orN o_)), (4, .int (nI (3 + 1)))]) [0, 1, 2, 3, 4] rfl ?_
          exact ih_ 4 o_ (by first | assumption | omega | rfl) (hq.symm) (by rw [← hq]; exact fun f hf => cmO_lt _ f hf) (by omega)
        ·
          have hnb : nbP p 3 = rchP X5 Y6 := by rw [hX5, hY6]; simp only [nbP, m1_e, nI_add, Nat.add_zero]
          rw [Bool.and_eq_true] at c_63
          obtain ⟨⟨a_, ha, hXa⟩, ⟨d_, hd, hYd⟩⟩ := And.intro ((rgB_iff (by decide)).mp c_63.1) ((rgB_iff (by decide)).mp c_63.2)
          have hr : nbP p 3 = some (12 * d_ + a_) := by rw [hnb, hXa, hYd, rchP_s ha hd, show d_ * 12 + a_ = 12 * d_ + a_ by omega]
          refine g_eq (L' := [(0, .ref u0), (1, .int (nI w)), (2, .int (nI p)), (3, .int (orN o_)), (4, .int (nI 3)), (5, .int (nI a_)), (6, .int (nI d_)), (7, .int (nI (12 * d_ + a_)))]) rfl (by rw [hXa, hYd, pk_mul, nI_add]) rfl ?_
          cases o_ with
          | none =>
            refine g_eq (L' := [(0, .ref u0), (1, .int (nI w)), (2, .int (nI p)), (3, .int (-5)), (4, .int (nI 3)), (5, .int (nI a_)), (6, .int (nI d_)), (7, .int (nI (12 * d_ + a_)))]) rfl rfl rfl ?_
            have hq : cmO (SW w) p (3 + 1) = some (12 * d_ + a_) := by simp only [cmO]; rw [← ho, hr]; rfl
            refine g_iload_n O dX9_calmest_87 3 rfl rfl ?_
            refine g_bipush (x := (-5)) O dX9_calmest_88 (by decide +kernel) ?_
            refine g_icmp_eq (tgt := 109) O dX9_calmest_90 (by decide) (fun c_65 => ?_) (fun c_65 => absurd c_65 (fun h => h rfl))
            refine g_iconst (x := (nI 1)) O dX9_calmest_109 (by decide +kernel) ?_
            refine g_goto (tgt := 114) O dX9_calmest_110 (by decide) ?_
            refine g_istore (L' := [(0, .ref u0), (1, .int (nI w)), (2, .int (nI p)), (3, .int (-5)), (4, .int (nI 3)), (5, .int (nI a_)), (6, .int (nI d_)), (7, .int (nI (12 * d_ + a_))), (8, .int (nI 1))]) O dX9_calmest_114 (by decide) [1, 2, 3, 4, 5, 6, 7, 8, 0] rfl ?_
            refine g_iload O dX9_calmest_116 8 rfl ?_
            refine g_if_eqN (tgt := 126) O (by omega) dX9_calmest_118 (by decide) (fun c_66 => absurd c_66 (by decide)) (fun c_66 => ?_)
            refine g_iload O dX9_calmest_121 7 rfl ?_
            refine g_goto (tgt := 127) O dX9_calmest_123 (by decide) ?_
            refine g_istore_n (L' := [(0, .ref u0), (1, .int (nI w)), (2, .int (nI p)), (3, .int (nI (12 * d_ + a_))), (4, .int (nI 3)), (5, .int (nI a_)), (6, .int (nI d_)), (7, .int (nI (12 * d_ + a_))), (8, .int (nI 1))]) O dX9_calmest_127 rfl (by decide) [1, 2, 3, 0, 4, 5, 6, 7, 8] rfl ?_
            refine g_iincN (L' := [(0, .ref u0), (1, .int (nI w)), (2, .int (nI p)), (3, .int (nI (12 * d_ + a_))), (4, .int (nI (3 + 1))), (5, .int (nI a_)), (6, .int (nI d_)), (7, .int (nI (12 * d_ + a_))), (8, .int (nI 1))]) O dX9_calmest_128 4 rfl (by decide) [1, 2, 3, 4, 0, 5, 6, 7, 8] rfl ?_
            refine g_goto (tgt := 6) O dX9_calmest_131 (by decide) ?_
            refine g_locals (L' := [(0, .ref u0), (1, .int (nI w)), (2, .int (nI p)), (3, .int (nI (12 * d_ + a_))), (4, .int (nI (3 + 1)))]) [0, 1, 2, 3, 4] rfl ?_
            exact ih_ 4 (some (12 * d_ + a_)) (by first | assumption | omega | rfl) (hq.symm) (by rw [← hq]; exact fun f hf => cmO_lt _ f hf) (by omega)
          | some f_ =>
            have hf144 := hol f_ rfl
            refine g_eq (L' := [(0, .ref u0), (1, .int (nI w)), (2, .int (nI p)), (3, .int (nI f_)), (4, .int (nI 3)), (5, .int (nI a_)), (6, .int (nI d_)), (7, .int (nI (12 * d_ + a_)))]) rfl rfl rfl ?_
            refine g_iload_n O dX9_calmest_87 3 rfl rfl ?_
            refine g_bipush (x := (-5)) O dX9_calmest_88 (by decide +kernel) ?_
            refine g_icmp_eq (tgt := 109) O dX9_calmest_90 (by decide) (fun c_67 => (by exact absurd c_67 (fun h => by have h2 := (nI_toInt (n := f_) (by omega)).symm.trans (congrArg Int32.toInt h); have h3 : (-5 : Int32).toInt = -5 := by decide +kernel; rw [h3] at h2; omega))) (fun c_67 => ?_)
            refine g_aload_n O dX9_calmest_93 0 rfl rfl ?_
            refine g_iload_n O dX9_calmest_94 1 rfl rfl ?_
            refine g_iload O dX9_calmest_95 7 rfl ?_
            refine g_callV (As := [.int (nI w), .int (nI (12 * d_ + a_))]) (wr := []) O (kX9_swingAt l D z u0 u1 u2 u3 u4 u5 u6 u7 u8 u9 u10 u11 kn ik ty ta iw w (12 * d_ + a_) (by first | assumption | omega) (by first | assumption | omega)) gX9_calmest_X9_swingAt rfl rfl rfl 2 (by decide +kernel) (by decide) (by decide) (q0 := 0) rfl rfl rfl [0, 1] [] rfl (by decide) rfl (by decide) (by decide) rfl rfl (Nat.le_of_ble_eq_true rfl) dX9_calmest_97 (fun r_68 w_69 hp => ?_)
            obtain ⟨rfl, rfl⟩ := hp
            refine g_eq (st' := [.int (SW w (12 * d_ + a_))]) (ws' := [(u0, .inr (9, [.ref u1, .ref u2, .ref u3, .ref u4, .ref u5, .ref u6, .int (nI kn), .ref u7, .int (bB ik), .ref u8, .int (nI ty), .ref u9, .int (nI ta), .int (bB iw), .ref u10, .ref u11])), (u4, .inl ((TY D)[0].1, 6912, .inl SWT))]) rfl rfl rfl ?_
            refine g_aload_n O dX9_calmest_100 0 rfl rfl ?_
            refine g_iload_n O dX9_calmest_101 1 rfl rfl ?_
            refine g_iload_n O dX9_calmest_102 3 rfl rfl ?_
            refine g_callV (As := [.int (nI w), .int (nI f_)]) (wr := []) O (kX9_swingAt l D z u0 u1 u2 u3 u4 u5 u6 u7 u8 u9 u10 u11 kn ik ty ta iw w f_ (by first | assumption | omega) (by first | assumption | omega)) gX9_calmest_X9_swingAt rfl rfl rfl 2 (by decide +kernel) (by decide) (by decide) (q0 := 0) rfl rfl rfl [0, 1] [] rfl (by decide) rfl (by decide) (by decide) rfl rfl (Nat.le_of_ble_eq_true rfl) dX9_calmest_103 (fun r_70 w_71 hp => ?_)
            obtain ⟨rfl, rfl⟩ := hp
            refine g_eq (st' := [.int (SW w f_), .int (SW w (12 * d_ + a_))]) (ws' := [(u0, .inr (9, [.ref u1, .ref u2, .ref u3, .ref u4, .ref u5, .ref u6, .int (nI kn), .ref u7, .int (bB ik), .ref u8, .int (nI ty), .ref u9, .int (nI ta), .int (bB iw), .ref u10, .ref u11])), (u4, .inl ((TY D)[0].1, 6912, .inl SWT))]) rfl rfl rfl ?_
            refine g_icmp_ge (tgt := 113) O dX9_calmest_106 (by decide) (fun c_72 => ?_) (fun c_72 => ?_)
            ·
              have hq : cmO (SW w) p (3 + 1) = some f_ := by simp only [cmO]; rw [← ho, hr]; simp only [cmS]; rw [if_neg (Int32.not_lt.mpr c_72)]
              refine g_iconst (x := (nI 0)) O dX9_calmest_113 (by decide +kernel) ?_
              refine g_istore (L' := [(0, .ref u0), (1, .int (nI w)), (2, .int (nI p)), (3, .int (nI f_)), (4, .int (nI 3)), (5, .int (nI a_)), (6, .int (nI d_)), (7, .int (nI (12 * d_ + a_))), (8, .int (nI 0))]) O dX9_calmest_114 (by decide) [1, 2, 3, 4, 5, 6, 7, 8, 0] rfl ?_
              refine g_iload O dX9_calmest_116 8 rfl ?_
              refine g_if_eqN (tgt := 126) O (by omega) dX9_calmest_118 (by decide) (fun c_73 => ?_) (fun c_73 => absurd c_73 (by decide))
              refine g_iload_n O dX9_calmest_126 3 rfl rfl ?_
              refine g_istore_n (L' := [(0, .ref u0), (1, .int (nI w)), (2, .int (nI p)), (3, .int (nI f_)), (4, .int (nI 3)), (5, .int (nI a_)), (6, .int (nI d_)), (7, .int (nI (12 * d_ + a_))), (8, .int (nI 0))]) O dX9_calmest_127 rfl (by decide) [1, 2, 3, 0, 4, 5, 6, 7, 8] rfl ?_
              refine g_iincN (L' := [(0, .ref u0), (1, .int (nI w)), (2, .int (nI p)), (3, .int (nI f_)), (4, .int (nI (3 + 1))), (5, .int (nI a_)), (6, .int (nI d_)), (7, .int (nI (12 * d_ + a_))), (8, .int (nI 0))]) O dX9_calmest_128 4 rfl (by decide) [1, 2, 3, 4, 0, 5, 6, 7, 8] rfl ?_
              refine g_goto (tgt := 6) O dX9_calmest_131 (by decide) ?_
              refine g_locals (L' := [(0, .ref u0), (1, .int (nI w)), (2, .int (nI p)), (3, .int (nI f_)), (4, .int (nI (3 + 1)))]) [0, 1, 2, 3, 4] rfl ?_
              exact ih_ 4 (some (f_)) (by first | assumption | omega | rfl) (hq.symm) (by rw [← hq]; exact fun f hf => cmO_lt _ f hf) (by omega)
            ·
              have hq : cmO (SW w) p (3 + 1) = some (12 * d_ + a_) := by simp only [cmO]; rw [← ho, hr]; simp only [cmS]; rw [if_pos (Int32.not_le.mp c_72)]
              refine g_iconst (x := (nI 1)) O dX9_calmest_109 (by decide +kernel) ?_
              refine g_goto (tgt := 114) O dX9_calmest_110 (by decide) ?_
              refine g_istore (L' := [(0, .ref u0), (1, .int (nI w)), (2, .int (nI p)), (3, .int (nI f_)), (4, .int (nI 3)), (5, .int (nI a_)), (6, .int (nI d_)), (7, .int (nI (12 * d_ + a_))), (8, .int (nI 1))]) O dX9_calmest_114 (by decide) [1, 2, 3, 4, 5, 6, 7, 8, 0] rfl ?_
              refine g_iload O dX9_calmest_116 8 rfl ?_
              refine g_if_eqN (tgt := 126) O (by omega) dX9_calmest_118 (by decide) (fun c_74 => absurd c_74 (by decide)) (fun c_74 => ?_)
              refine g_iload O dX9_calmest_121 7 rfl ?_
              refine g_goto (tgt := 127) O dX9_calmest_123 (by decide) ?_
              refine g_istore_n (L' := [(0, .ref u0), (1, .int (nI w)), (2, .int (nI p)), (3, .int (nI (12 * d_ + a_))), (4, .int (nI 3)), (5, .int (nI a_)), (6, .int (nI d_)), (7, .int (nI (12 * d_ + a_))), (8, .int (nI 1))]) O dX9_calmest_127 rfl (by decide) [1, 2, 3, 0, 4, 5, 6, 7, 8] rfl ?_
              refine g_iincN (L' := [(0, .ref u0), (1, .int (nI w)), (2, .int (nI p)), (3, .int (nI (12 * d_ + a_))), (4, .int (nI (3 + 1))), (5, .int (nI a_)), (6, .int (nI d_)), (7, .int (nI (12 * d_ + a_))), (8, .int (nI 1))]) O dX9_calmest_128 4 rfl (by decide) [1, 2, 3, 4, 0, 5, 6, 7, 8] rfl ?_
              refine g_goto (tgt := 6) O dX9_calmest_131 (by decide) ?_
              refine g_locals (L' := [(0, .ref u0), (1, .int (nI w)), (2, .int (nI p)), (3, .int (nI (12 * d_ + a_))), (4, .int (nI (3 + 1)))]) [0, 1, 2, 3, 4] rfl ?_
              exact ih_ 4 (some (12 * d_ + a_)) (by first | assumption | omega | rfl) (hq.symm) (by rw [← hq]; exact fun f hf => cmO_lt _ f hf) (by omega)
      ·
        refine g_iload O dX9_calmest_6 4 rfl ?_
        refine g_iconst (x := (nI 4)) O dX9_calmest_8 (by decide +kernel) ?_
        refine g_icmp_geN (tgt := 134) O (by omega) (by omega) dX9_calmest_9 (by decide) (fun c_75 => ?_) (fun c_75 => absurd c_75 (by decide))
        obtain ⟨f9, hf9⟩ := cmO_some (sw := SW w) hp
        have hof : o_ = some f9 := by rw [ho, hf9]
        refine g_eq (L' := [(0, .ref u0), (1, .int (nI w)), (2, .int (nI p)), (3, .int (nI f9)), (4, .int (nI 4))]) rfl (by rw [hof]; rfl) rfl ?_
        refine g_iload_n O dX9_calmest_134 3 rfl rfl ?_
        exact E 135 _ (nI f9) _ dX9_calmest_135 (by rw [show cmN w p = f9 from by show (cmO (SW w) p 4).getD 0 = f9; rw [hf9]; rfl]; exact ⟨rfl, rfl⟩)
  exact J6 _ 0 none (Nat.zero_le _) (rfl) (fun f h => by cases h) (Nat.lt_succ_self _)
