theorem hiX9_strikeAt_X9 : ∀ w ∈ wsX90, w ∈ wsX9_strikeAt := by intro w h; simp only [wsX9_strikeAt, List.mem_append, List.mem_cons, h, or_true, true_or]
set_option maxHeartbeats 2000000 in
set_option maxRecDepth 100000 in
theorem kX9_strikeAt (l : Launch) (D : va_G) (z : Nat × Nat × Nat) (u0 : Nat) (u1 : Nat) (u2 : Nat) (u3 : Nat) (u4 : Nat) (u5 : Nat) (u6 : Nat) (u7 : Nat) (u8 : Nat) (u9 : Nat) (u10 : Nat) (u11 : Nat) (kn : Nat) (ik : Bool) (ty : Nat) (ta : Nat) (iw : Bool) (M : Nat → Int32) (s : SV) (d : Nat) (hM : RM M s) (hd : d < sv_ps s) (hps : sv_ps s ≤ 16) (hnc : sv_nc s ≤ 4) : CM l yX9_strikeAt wsX9_strikeAt ({ frames := 0, cells := 0, slots := 0, locals := 0 } : Room) D z [.ref u0, .int (nI d)] [(u0, .inr (9, [.ref u1, .ref u2, .ref u3, .ref u4, .ref u5, .ref u6, .int (nI kn), .ref u7, .int (bB ik), .ref u8, .int (nI ty), .ref u9, .int (nI ta), .int (bB iw), .ref u10, .ref u11])), (u5, .inl (tyI D, 208, .inl M))] (fun r_ w_ => ∃ (M9 : Nat → Int32), (RM M9 (rmS s d)) ∧ r_ = none ∧ w_ = [(u0, .inr (9, [.ref u1, .ref u2, .ref u3, .ref u4, .ref u5, .ref u6, .int (nI kn), .ref u7, .int (bB ik), .ref u8, .int (nI ty), .ref u9, .int (nI ta), .int (bB iw), .ref u10, .ref u11])), (u5, .inl (tyI D, 208, .inl M9))]) 0 0 := by
  refine CM_void (own := RX9) (cc := cX9_strikeAt) (maxL := 3) (L0 := [(0, .ref u0), (1, .int (nI d))]) (by decide) rfl rfl (Nat.le_of_ble_eq_true rfl) rfl (fun X O E => ?_)
  refine g_aload_n O dX9_strikeAt_0 0 rfl rfl ?_
  refine g_get O hiX9_strikeAt_X9 0 rfl rfl 4 (by decide) (by decide +kernel) rfl dX9_strikeAt_1 ?_
  refine g_sipush (x := (nI 159)) O dX9_strikeAt_4 (by decide +kernel) ?_
  refine g_dup2 O dX9_strikeAt_7 rfl rfl ?_
  refine g_ialdN O 1 rfl (by omega) (by omega) dX9_strikeAt_8 ?_
  refine g_eq (st' := [.int (nI (sv_ps s)), .int (nI 159), .ref u5]) (by rw [RM_ps hM]) rfl rfl ?_
  refine g_iconst (x := (nI 1)) O dX9_strikeAt_9 (by decide +kernel) ?_
  refine g_isubN O (by omega) dX9_strikeAt_10 ?_
  refine g_iastN (f' := (upd M 159 (nI ((sv_ps s) - 1)))) (ws' := [(u0, .inr (9, [.ref u1, .ref u2, .ref u3, .ref u4, .ref u5, .ref u6, .int (nI kn), .ref u7, .int (bB ik), .ref u8, .int (nI ty), .ref u9, .int (nI ta), .int (bB iw), .ref u10, .ref u11])), (u5, .inl (tyI D, 208, .inl (upd M 159 (nI ((sv_ps s) - 1)))))]) O 1 rfl (by omega) (by omega) dX9_strikeAt_11 rfl rfl ?_
  obtain ⟨M1, eM1⟩ : ∃ f, f = upd M 159 (nI ((sv_ps s) - 1)) := ⟨_, rfl⟩
  refine g_eq (ws' := [(u0, .inr (9, [.ref u1, .ref u2, .ref u3, .ref u4, .ref u5, .ref u6, .int (nI kn), .ref u7, .int (bB ik), .ref u8, .int (nI ty), .ref u9, .int (nI ta), .int (bB iw), .ref u10, .ref u11])), (u5, .inl (tyI D, 208, .inl M1))]) rfl rfl (by rw [eM1]) ?_
  have h159 : M1 159 = nI (sv_ps s - 1) := by rw [eM1]; exact pk_us
  refine g_sipush (x := (nI 160)) O dX9_strikeAt_12 (by decide +kernel) ?_
  refine g_iconst (x := (nI 3)) O dX9_strikeAt_15 (by decide +kernel) ?_
  refine g_iload_n O dX9_strikeAt_16 1 rfl rfl ?_
  refine g_imulN O dX9_strikeAt_17 ?_
  refine g_iaddN O dX9_strikeAt_18 ?_
  refine g_istore_n (L' := [(0, .ref u0), (1, .int (nI d)), (2, .int (nI (160 + (3 * d))))]) O dX9_strikeAt_19 rfl (by decide) [1, 2, 0] rfl ?_
  have J20 : ∀ (n_ : Nat), ∀ (i_ : Nat) (F_ : Nat → Int32) (hi_ : i_ ≤ 3 * (sv_ps s - 1 - d)) (hF : F_ = shf M1 (160 + 3 * d) 3 i_) (h159 : F_ 159 = nI (sv_ps s - 1)), 48 - i_ < n_ → G X 0 0 20 [(0, .ref u0), (1, .int (nI d)), (2, .int (nI (160 + 3 * d + i_)))] [] [(u0, .inr (9, [.ref u1, .ref u2, .ref u3, .ref u4, .ref u5, .ref u6, .int (nI kn), .ref u7, .int (bB ik), .ref u8, .int (nI ty), .ref u9, .int (nI ta), .int (bB iw), .ref u10, .ref u11])), (u5, .inl (tyI D, 208, .inl F_))] := by
    intro n_
    induction n_ with
    | zero => intro i_ F_ hi_ hF h159 hm_; exact absurd hm_ (Nat.not_lt_zero _)
    | succ n_ ih_ =>
      intro i_ F_ hi_ hF h159 hm_
      refine g_iload_n O dX9_strikeAt_20 2 rfl rfl ?_
      refine g_sipush (x := (nI 160)) O dX9_strikeAt_21 (by decide +kernel) ?_
      refine g_iconst (x := (nI 3)) O dX9_strikeAt_24 (by decide +kernel) ?_
      refine g_aload_n O dX9_strikeAt_25 0 rfl rfl ?_
      refine g_get O hiX9_strikeAt_X9 0 rfl rfl 4 (by decide) (by decide +kernel) rfl dX9_strikeAt_26 ?_
      refine g_sipush (x := (nI 159)) O dX9_strikeAt_29 (by decide +kernel) ?_
      refine g_ialdN O 1 rfl (by omega) (by omega) dX9_strikeAt_32 ?_
      refine g_eq (st' := [.int (nI (sv_ps s - 1)), .int (nI 3), .int (nI 160), .int (nI (160 + 3 * d + i_))]) (by rw [h159]) rfl rfl ?_
      refine g_imulN O dX9_strikeAt_33 ?_
      refine g_iaddN O dX9_strikeAt_34 ?_
      refine g_icmp_geN (tgt := 58) O (by omega) (by omega) dX9_strikeAt_35 (by decide) (fun c_1 => ?_) (fun c_1 => ?_)
      ·
        obtain rfl : i_ = 3 * (sv_ps s - 1 - d) := by omega
        exact E 58 _ _ dX9_strikeAt_58 (⟨_, (by rw [hF, eM1]; exact RM_rm hM hd hps hnc), rfl, rfl⟩)
      ·
        refine g_aload_n O dX9_strikeAt_38 0 rfl rfl ?_
        refine g_get O hiX9_strikeAt_X9 0 rfl rfl 4 (by decide) (by decide +kernel) rfl dX9_strikeAt_39 ?_
        refine g_iload_n O dX9_strikeAt_42 2 rfl rfl ?_
        refine g_aload_n O dX9_strikeAt_43 0 rfl rfl ?_
        refine g_get O hiX9_strikeAt_X9 0 rfl rfl 4 (by decide) (by decide +kernel) rfl dX9_strikeAt_44 ?_
        refine g_iload_n O dX9_strikeAt_47 2 rfl rfl ?_
        refine g_iconst (x := (nI 3)) O dX9_strikeAt_48 (by decide +kernel) ?_
        refine g_iaddN O dX9_strikeAt_49 ?_
        refine g_ialdN O 1 rfl (by omega) (by omega) dX9_strikeAt_50 ?_
        refine g_iastN (f' := (upd F_ (160 + 3 * d + i_) (F_ ((160 + 3 * d + i_) + 3)))) (ws' := [(u0, .inr (9, [.ref u1, .ref u2, .ref u3, .ref u4, .ref u5, .ref u6, .int (nI kn), .ref u7, .int (bB ik), .ref u8, .int (nI ty), .ref u9, .int (nI ta), .int (bB iw), .ref u10, .ref u11])), (u5, .inl (tyI D, 208, .inl (upd F_ (160 + 3 * d + i_) (F_ ((160 + 3 * d + i_) + 3)))))]) O 1 rfl (by omega) (by omega) dX9_strikeAt_51 rfl rfl ?_
        refine g_iincN (L' := [(0, .ref u0), (1, .int (nI d)), (2, .int (nI (160 + 3 * d + i_ + 1)))]) O dX9_strikeAt_52 2 rfl (by decide) [1, 2, 0] rfl ?_
        refine g_goto (tgt := 20) O dX9_strikeAt_55 (by decide) ?_
        exact ih_ (i_ + 1) _ (by first | assumption | omega | rfl) (by rw [hF]; exact shf_s M1 (160 + 3 * d) 3 i_ (by omega)) (by rw [pk_un (by omega)]; exact h159) (by omega)
  exact J20 _ 0 M1 (Nat.zero_le _) ((shf_0 _ _ _).symm) (by first | assumption | omega | rfl) (Nat.lt_succ_self _)

set_option maxHeartbeats 2000000 in
set_option maxRecDepth 100000 in
theorem kX9_strike_b1 (l : Launch) (D : va_G) (z : Nat × Nat × Nat) (u0 : Nat) (u1 : Nat) (u2 : Nat) (u3 : Nat) (u4 : Nat) (u5 : Nat) (u6 : Nat) (u7 : Nat) (u8 : Nat) (u9 : Nat) (u10 : Nat) (u11 : Nat) (kn : Nat) (ik : Bool) (ty : Nat) (ta : Nat) (iw : Bool) (x : Int32) (hb : rgB x 4 = false) : CM l yX9_strike wsX9_strike ({ frames := 1, cells := 0, slots := 0, locals := 22 } : Room) D z [.ref u0, .int x] [(u0, .inr (9, [.ref u1, .ref u2, .ref u3, .ref u4, .ref u5, .ref u6, .int (nI kn), .ref u7, .int (bB ik), .ref u8, .int (nI ty), .ref u9, .int (nI ta), .int (bB iw), .ref u10, .ref u11]))] (fun r_ w_ => r_ = some (.int (-1)) ∧ w_ = [(u0, .inr (9, [.ref u1, .ref u2, .ref u3, .ref u4, .ref u5, .ref u6, .int (nI kn), .ref u7, .int (bB ik), .ref u8, .int (nI ty), .ref u9, .int (nI ta), .int (bB iw), .ref u10, .ref u11]))]) 0 0 := by
  refine CM_int (own := RX9) (cc := cX9_strike) (maxL := 4) (L0 := [(0, .ref u0), (1, .int x)]) (by decide) rfl rfl (Nat.le_of_ble_eq_true rfl) rfl (fun X O E => ?_)
  refine g_iload_n O dX9_strike_0 1 rfl rfl ?_
  refine g_iconst (x := (nI 0)) O dX9_strike_1 (by decide +kernel) ?_
  refine g_iconst (x := (nI 3)) O dX9_strike_2 (by decide +kernel) ?_
  refine g_callS (As := [.int x, .int (nI 0), .int (nI 3)]) (wr := [(u0, .inr (9, [.ref u1, .ref u2, .ref u3, .ref u4, .ref u5, .ref u6, .int (nI kn), .ref u7, .int (bB ik), .ref u8, .int (nI ty), .ref u9, .int (nI ta), .int (bB iw), .ref u10, .ref u11]))]) O (kX9_in l D z x (nI 0) (nI 3) ) gX9_strike_X9_in rfl rfl rfl 3 (by decide +kernel) (by decide) (by decide) [] [0] rfl (by decide) rfl (by decide) (by decide) rfl rfl (Nat.le_of_ble_eq_true rfl) dX9_strike_3 (fun r_1 w_2 hp => ?_)
  obtain ⟨rfl, rfl⟩ := hp
  refine g_eq (st' := [.int (bB (inI x (nI 0) (nI 3)))]) (ws' := [(u0, .inr (9, [.ref u1, .ref u2, .ref u3, .ref u4, .ref u5, .ref u6, .int (nI kn), .ref u7, .int (bB ik), .ref u8, .int (nI ty), .ref u9, .int (nI ta), .int (bB iw), .ref u10, .ref u11]))]) rfl rfl rfl ?_
  refine g_if_neB (tgt := 11) O dX9_strike_6 (by decide) (fun c_3 => absurd c_3 (by rw [inI_r _ (by decide), hb]; decide)) (fun c_3 => ?_)
  refine g_iconst (x := (-1)) O dX9_strike_9 (by decide +kernel) ?_
  exact E 10 _ (-1) _ dX9_strike_10 ⟨rfl, rfl⟩

theorem hiX9_strike_X9 : ∀ w ∈ wsX90, w ∈ wsX9_strike := by intro w h; simp only [wsX9_strike, List.mem_append, List.mem_cons, h, or_true, true_or]
set_option maxHeartbeats 2000000 in
set_option maxRecDepth 100000 in
theorem kX9_strike_b2 (l : Launch) (D : va_G) (z : Nat × Nat × Nat) (u0 : Nat) (u1 : Nat) (u2 : Nat) (u3 : Nat) (u4 : Nat) (u5 : Nat) (u6 : Nat) (u7 : Nat) (u8 : Nat) (u9 : Nat) (u10 : Nat) (u11 : Nat) (kn : Nat) (ik : Bool) (ty : Nat) (ta : Nat) (iw : Bool) (M : Nat → Int32) (s : SV) (x : Nat) (hx : x < 4) (hM : RM M s) (hps : sv_ps s ≤ 16) (hpc : ∀ j, j < sv_ps s → sv_fs s j < 4 ∧ sv_fa s j < 12 ∧ 1 ≤ sv_fk s j ∧ sv_fk s j ≤ 20) (hb : cntB (isB (sv_fs s) x) (sv_ps s) = 0) : CM l yX9_strike wsX9_strike ({ frames := 1, cells := 0, slots := 0, locals := 22 } : Room) D z [.ref u0, .int (nI x)] [(u0, .inr (9, [.ref u1, .ref u2, .ref u3, .ref u4, .ref u5, .ref u6, .int (nI kn), .ref u7, .int (bB ik), .ref u8, .int (nI ty), .ref u9, .int (nI ta), .int (bB iw), .ref u10, .ref u11])), (u5, .inl (tyI D, 208, .inl M))] (fun r_ w_ => r_ = some (.int (-5)) ∧ w_ = [(u0, .inr (9, [.ref u1, .ref u2, .ref u3, .ref u4, .ref u5, .ref u6, .int (nI kn), .ref u7, .int (bB ik), .ref u8, .int (nI ty), .ref u9, .int (nI ta), .int (bB iw), .ref u10, .ref u11])), (u5, .inl (tyI D, 208, .inl M))]) 0 0 := by
  refine CM_int (own := RX9) (cc := cX9_strike) (maxL := 4) (L0 := [(0, .ref u0), (1, .int (nI x))]) (by decide) rfl rfl (Nat.le_of_ble_eq_true rfl) rfl (fun X O E => ?_)
  refine g_iload_n O dX9_strike_0 1 rfl rfl ?_
  refine g_iconst (x := (nI 0)) O dX9_strike_1 (by decide +kernel) ?_
  refine g_iconst (x := (nI 3)) O dX9_strike_2 (by decide +kernel) ?_
  refine g_callS (As := [.int (nI x), .int (nI 0), .int (nI 3)]) (wr := [(u0, .inr (9, [.ref u1, .ref u2, .ref u3, .ref u4, .ref u5, .ref u6, .int (nI kn), .ref u7, .int (bB ik), .ref u8, .int (nI ty), .ref u9, .int (nI ta), .int (bB iw), .ref u10, .ref u11])), (u5, .inl (tyI D, 208, .inl M))]) O (kX9_in l D z (nI x) (nI 0) (nI 3) ) gX9_strike_X9_in rfl rfl rfl 3 (by decide +kernel) (by decide) (by decide) [] [0, 1] rfl (by decide) rfl (by decide) (by decide) rfl rfl (Nat.le_of_ble_eq_true rfl) dX9_strike_3 (fun r_1 w_2 hp => ?_)
  obtain ⟨rfl, rfl⟩ := hp
  refine g_eq (st' := [.int (bB (inI (nI x) (nI 0) (nI 3)))]) (ws' := [(u0, .inr (9, [.ref u1, .ref u2, .ref u3, .ref u4, .ref u5, .ref u6, .int (nI kn), .ref u7, .int (bB ik), .ref u8, .int (nI ty), .ref u9, .int (nI ta), .int (bB iw), .ref u10, .ref u11])), (u5, .inl (tyI D, 208, .inl M))]) rfl rfl rfl ?_
  refine g_if_neB (tgt := 11) O dX9_strike_6 (by decide) (fun c_3 => ?_) (fun c_3 => absurd c_3 (by rw [inI_r _ (by decide), rgB_t hx (by decide)]; decide))
  refine g_iconst (x := (nI 0)) O dX9_strike_11 (by decide +kernel) ?_
  refine g_istore_n (L' := [(0, .ref u0), (1, .int (nI x)), (2, .int (nI 0))]) O dX9_strike_12 rfl (by decide) [1, 2, 0] rfl ?_
  refine g_iconst (x := (nI 0)) O dX9_strike_13 (by decide +kernel) ?_
  refine g_istore_n (L' := [(0, .ref u0), (1, .int (nI x)), (2, .int (nI 0)), (3, .int (nI 0))]) O dX9_strike_14 rfl (by decide) [1, 2, 3, 0] rfl ?_
  have J15 : ∀ (n_ : Nat), ∀ (i_ : Nat) (hi_ : i_ ≤ sv_ps s), sv_ps s - i_ < n_ → G X 0 0 15 [(0, .ref u0), (1, .int (nI x)), (2, .int (nI (cntB (isB (sv_fs s) x) i_))), (3, .int (nI i_))] [] [(u0, .inr (9, [.ref u1, .ref u2, .ref u3, .ref u4, .ref u5, .ref u6, .int (nI kn), .ref u7, .int (bB ik), .ref u8, .int (nI ty), .ref u9, .int (nI ta), .int (bB iw), .ref u10, .ref u11])), (u5, .inl (tyI D, 208, .inl M))] := by
    intro n_
    induction n_ with
    | zero => intro i_ hi_ hm_; exact absurd hm_ (Nat.not_lt_zero _)
    | succ n_ ih_ =>
      intro i_ hi_ hm_
      have hcl := cntB_le (isB (sv_fs s) x) i_
      refine g_iload_n O dX9_strike_15 3 rfl rfl ?_
      refine g_aload_n O dX9_strike_16 0 rfl rfl ?_
      refine g_get O hiX9_strike_X9 0 rfl rfl 4 (by decide) (by decide +kernel) rfl dX9_strike_17 ?_
      refine g_sipush (x := (nI 159)) O dX9_strike_20 (by decide +kernel) ?_
      refine g_ialdN O 1 rfl (by omega) (by omega) dX9_strike_23 ?_
      refine g_eq (st' := [.int (nI (sv_ps s)), .int (nI i_)]) (by rw [RM_ps hM]) rfl rfl ?_
      refine g_icmp_geN (tgt := 57) O (by omega) (by omega) dX9_strike_24 (by decide) (fun c_4 => ?_) (fun c_4 => ?_)
      ·
        obtain rfl : i_ = sv_ps s := by omega
        refine g_iload_n O dX9_strike_57 2 rfl rfl ?_
        refine g_if_neN (tgt := 64) O (by omega) dX9_strike_58 (by decide) (fun c_5 => (by exfalso; omega)) (fun c_5 => ?_)
        refine g_bipush (x := (-5)) O dX9_strike_61 (by decide +kernel) ?_
        exact E 63 _ (-5) _ dX9_strike_63 ⟨rfl, rfl⟩
      ·
        have hpi := hpc i_ c_4
        refine g_iload_n O dX9_strike_27 2 rfl rfl ?_
        refine g_aload_n O dX9_strike_28 0 rfl rfl ?_
        refine g_get O hiX9_strike_X9 0 rfl rfl 4 (by decide) (by decide +kernel) rfl dX9_strike_29 ?_
        refine g_sipush (x := (nI 160)) O dX9_strike_32 (by decide +kernel) ?_
        refine g_iconst (x := (nI 3)) O dX9_strike_35 (by decide +kernel) ?_
        refine g_iload_n O dX9_strike_36 3 rfl rfl ?_
        refine g_imulN O dX9_strike_37 ?_
        refine g_iaddN O dX9_strike_38 ?_
        refine g_ialdN O 1 rfl (by omega) (by omega) dX9_strike_39 ?_
        refine g_eq (st' := [.int (nI (sv_fs s i_)), .int (nI (cntB (isB (sv_fs s) x) i_))]) (by rw [(RM_b hM (show i_ < sv_ps s by omega)).1]) rfl rfl ?_
        refine g_iload_n O dX9_strike_40 1 rfl rfl ?_
        refine g_icmp_neN (tgt := 48) O (by omega) (by omega) dX9_strike_41 (by decide) (fun c_6 => ?_) (fun c_6 => ?_)
        ·
          have hq : cntB (isB (sv_fs s) x) (i_ + 1) = cntB (isB (sv_fs s) x) i_ := cntB_f (by simp only [isB]; simp [c_6])
          refine g_iconst (x := (nI 0)) O dX9_strike_48 (by decide +kernel) ?_
          refine g_iaddN O dX9_strike_49 ?_
          refine g_eq (st' := [.int (nI (cntB (isB (sv_fs s) x) (i_ + 1)))]) (by rw [hq] <;> rfl) rfl rfl ?_
          refine g_istore_n (L' := [(0, .ref u0), (1, .int (nI x)), (2, .int (nI (cntB (isB (sv_fs s) x) (i_ + 1)))), (3, .int (nI i_))]) O dX9_strike_50 rfl (by decide) [1, 2, 0, 3] rfl ?_
          refine g_iincN (L' := [(0, .ref u0), (1, .int (nI x)), (2, .int (nI (cntB (isB (sv_fs s) x) (i_ + 1)))), (3, .int (nI (i_ + 1)))]) O dX9_strike_51 3 rfl (by decide) [1, 2, 3, 0] rfl ?_
          refine g_goto (tgt := 15) O dX9_strike_54 (by decide) ?_
          exact ih_ (i_ + 1) (by first | assumption | omega | rfl) (by omega)
        ·
          have hq : cntB (isB (sv_fs s) x) (i_ + 1) = cntB (isB (sv_fs s) x) i_ + 1 := cntB_t (by simp only [isB]; simp [c_6])
          refine g_iconst (x := (nI 1)) O dX9_strike_44 (by decide +kernel) ?_
          refine g_goto (tgt := 49) O dX9_strike_45 (by decide) ?_
          refine g_iaddN O dX9_strike_49 ?_
          refine g_eq (st' := [.int (nI (cntB (isB (sv_fs s) x) (i_ + 1)))]) (by rw [hq] <;> rfl) rfl rfl ?_
          refine g_istore_n (L' := [(0, .ref u0), (1, .int (nI x)), (2, .int (nI (cntB (isB (sv_fs s) x) (i_ + 1)))), (3, .int (nI i_))]) O dX9_strike_50 rfl (by decide) [1, 2, 0, 3] rfl ?_
          refine g_iincN (L' := [(0, .ref u0), (1, .int (nI x)), (2, .int (nI (cntB (isB (sv_fs s) x) (i_ + 1)))), (3, .int (nI (i_ + 1)))]) O dX9_strike_51 3 rfl (by decide) [1, 2, 3, 0] rfl ?_
          refine g_goto (tgt := 15) O dX9_strike_54 (by decide) ?_
          exact ih_ (i_ + 1) (by first | assumption | omega | rfl) (by omega)
  exact J15 _ 0 (Nat.zero_le _) (Nat.lt_succ_self _)

set_option maxHeartbeats 2000000 in
set_option maxRecDepth 100000 in
theorem kX9_strike_ok (l : Launch) (D : va_G) (z : Nat × Nat × Nat) (u0 : Nat) (u1 : Nat) (u2 : Nat) (u3 : Nat) (u4 : Nat) (u5 : Nat) (u6 : Nat) (u7 : Nat) (u8 : Nat) (u9 : Nat) (u10 : Nat) (u11 : Nat) (kn : Nat) (ik : Bool) (ty : Nat) (ta : Nat) (iw : Bool) (M : Nat → Int32) (Bf : Nat → Int32) (s : SV) (x : Nat) (hM : RM M s) (hkn : kn ≤ 4) (hx : x < 4) (hps : sv_ps s ≤ 16) (hnc : sv_nc s ≤ 4) (hpc : ∀ j, j < sv_ps s → sv_fs s j < 4 ∧ sv_fa s j < 12 ∧ 1 ≤ sv_fk s j ∧ sv_fk s j ≤ 20) (hb : 0 < cntB (isB (sv_fs s) x) (sv_ps s)) : CM l yX9_strike wsX9_strike ({ frames := 1, cells := 0, slots := 0, locals := 22 } : Room) D z [.ref u0, .int (nI x)] [(u0, .inr (9, [.ref u1, .ref u2, .ref u3, .ref u4, .ref u5, .ref u6, .int (nI kn), .ref u7, .int (bB ik), .ref u8, .int (nI ty), .ref u9, .int (nI ta), .int (bB iw), .ref u10, .ref u11])), (u5, .inl (tyI D, 208, .inl M)), (u6, .inl (tyI D, 832, .inl Bf))] (fun r_ w_ => ∃ (M9 : Nat → Int32), (RM M9 (dsF s x (sv_ps s))) ∧ r_ = some (.int (nI (cntB (isB (sv_fs s) x) (sv_ps s)))) ∧ w_ = [(u0, .inr (9, [.ref u1, .ref u2, .ref u3, .ref u4, .ref u5, .ref u6, .int (nI (rhN kn)), .ref u7, .int (bB ik), .ref u8, .int (nI ty), .ref u9, .int (nI ta), .int (bB iw), .ref u10, .ref u11])), (u5, .inl (tyI D, 208, .inl M9)), (u6, .inl (tyI D, 832, .inl (kwF Bf M kn)))]) 0 0 := by
  refine CM_int (own := RX9) (cc := cX9_strike) (maxL := 4) (L0 := [(0, .ref u0), (1, .int (nI x))]) (by decide) rfl rfl (Nat.le_of_ble_eq_true rfl) rfl (fun X O E => ?_)
  refine g_iload_n O dX9_strike_0 1 rfl rfl ?_
  refine g_iconst (x := (nI 0)) O dX9_strike_1 (by decide +kernel) ?_
  refine g_iconst (x := (nI 3)) O dX9_strike_2 (by decide +kernel) ?_
  refine g_callS (As := [.int (nI x), .int (nI 0), .int (nI 3)]) (wr := [(u0, .inr (9, [.ref u1, .ref u2, .ref u3, .ref u4, .ref u5, .ref u6, .int (nI kn), .ref u7, .int (bB ik), .ref u8, .int (nI ty), .ref u9, .int (nI ta), .int (bB iw), .ref u10, .ref u11])), (u5, .inl (tyI D, 208, .inl M)), (u6, .inl (tyI D, 832, .inl Bf))]) O (kX9_in l D z (nI x) (nI 0) (nI 3) ) gX9_strike_X9_in rfl rfl rfl 3 (by decide +kernel) (by decide) (by decide) [] [0, 1, 2] rfl (by decide) rfl (by decide) (by decide) rfl rfl (Nat.le_of_ble_eq_true rfl) dX9_strike_3 (fun r_1 w_2 hp => ?_)
  obtain ⟨rfl, rfl⟩ := hp
  refine g_eq (st' := [.int (bB (inI (nI x) (nI 0) (nI 3)))]) (ws' := [(u0, .inr (9, [.ref u1, .ref u2, .ref u3, .ref u4, .ref u5, .ref u6, .int (nI kn), .ref u7, .int (bB ik), .ref u8, .int (nI ty), .ref u9, .int (nI ta), .int (bB iw), .ref u10, .ref u11])), (u5, .inl (tyI D, 208, .inl M)), (u6, .inl (tyI D, 832, .inl Bf))]) rfl rfl rfl ?_
  refine g_if_neB (tgt := 11) O dX9_strike_6 (by decide) (fun c_3 => ?_) (fun c_3 => absurd c_3 (by rw [inI_r _ (by decide), rgB_t hx (by decide)]; decide))
  refine g_iconst (x := (nI 0)) O dX9_strike_11 (by decide +kernel) ?_
  refine g_istore_n (L' := [(0, .ref u0), (1, .int (nI x)), (2, .int (nI 0))]) O dX9_strike_12 rfl (by decide) [1, 2, 0] rfl ?_
  refine g_iconst (x := (nI 0)) O dX9_strike_13 (by decide +kernel) ?_
  refine g_istore_n (L' := [(0, .ref u0), (1, .int (nI x)), (2, .int (nI 0)), (3, .int (nI 0))]) O dX9_strike_14 rfl (by decide) [1, 2, 3, 0] rfl ?_
  have J15 : ∀ (n_ : Nat), ∀ (i_ : Nat) (hi_ : i_ ≤ sv_ps s), sv_ps s - i_ < n_ → G X 0 0 15 [(0, .ref u0), (1, .int (nI x)), (2, .int (nI (cntB (isB (sv_fs s) x) i_))), (3, .int (nI i_))] [] [(u0, .inr (9, [.ref u1, .ref u2, .ref u3, .ref u4, .ref u5, .ref u6, .int (nI kn), .ref u7, .int (bB ik), .ref u8, .int (nI ty), .ref u9, .int (nI ta), .int (bB iw), .ref u10, .ref u11])), (u5, .inl (tyI D, 208, .inl M)), (u6, .inl (tyI D, 832, .inl Bf))] := by
    intro n_
    induction n_ with
    | zero => intro i_ hi_ hm_; exact absurd hm_ (Nat.not_lt_zero _)
    | succ n_ ih_ =>
      intro i_ hi_ hm_
      have hcl := cntB_le (isB (sv_fs s) x) i_
      refine g_iload_n O dX9_strike_15 3 rfl rfl ?_
      refine g_aload_n O dX9_strike_16 0 rfl rfl ?_
      refine g_get O hiX9_strike_X9 0 rfl rfl 4 (by decide) (by decide +kernel) rfl dX9_strike_17 ?_
      refine g_sipush (x := (nI 159)) O dX9_strike_20 (by decide +kernel) ?_
      refine g_ialdN O 1 rfl (by omega) (by omega) dX9_strike_23 ?_
      refine g_eq (st' := [.int (nI (sv_ps s)), .int (nI i_)]) (by rw [RM_ps hM]) rfl rfl ?_
      refine g_icmp_geN (tgt := 57) O (by omega) (by omega) dX9_strike_24 (by decide) (fun c_4 => ?_) (fun c_4 => ?_)
      ·
        obtain rfl : i_ = sv_ps s := by omega
        refine g_iload_n O dX9_strike_57 2 rfl rfl ?_
        refine g_if_neN (tgt := 64) O (by omega) dX9_strike_58 (by decide) (fun c_5 => ?_) (fun c_5 => (by exfalso; omega))
        refine g_aload_n O dX9_strike_64 0 rfl rfl ?_
        refine g_callV (As := []) (wr := []) O (kX9_know l D z u0 u1 u2 u3 u4 u5 u6 u7 u8 u9 u10 u11 kn ik ty ta iw M Bf (by first | assumption | omega)) gX9_strike_X9_know rfl rfl rfl 0 (by decide +kernel) (by decide) (by decide) (q0 := 0) rfl rfl rfl [0, 1, 2] [] rfl (by decide) rfl (by decide) (by decide) rfl rfl (Nat.le_of_ble_eq_true rfl) dX9_strike_65 (fun r_6 w_7 hp => ?_)
        obtain ⟨rfl, rfl⟩ := hp
        refine g_eq (st' := []) (ws' := [(u0, .inr (9, [.ref u1, .ref u2, .ref u3, .ref u4, .ref u5, .ref u6, .int (nI (rhN kn)), .ref u7, .int (bB ik), .ref u8, .int (nI ty), .ref u9, .int (nI ta), .int (bB iw), .ref u10, .ref u11])), (u5, .inl (tyI D, 208, .inl M)), (u6, .inl (tyI D, 832, .inl (kwF Bf M kn)))]) rfl rfl rfl ?_
        refine g_aload_n O dX9_strike_68 0 rfl rfl ?_
        refine g_get O hiX9_strike_X9 0 rfl rfl 4 (by decide) (by decide +kernel) rfl dX9_strike_69 ?_
        refine g_sipush (x := (nI 159)) O dX9_strike_72 (by decide +kernel) ?_
        refine g_ialdN O 1 rfl (by omega) (by omega) dX9_strike_75 ?_
        refine g_eq (st' := [.int (nI (sv_ps s))]) (by rw [RM_ps hM]) rfl rfl ?_
        refine g_iconst (x := (nI 1)) O dX9_strike_76 (by decide +kernel) ?_
        refine g_isub O dX9_strike_77 ?_
        refine g_eq (st' := [.int ((nI (sv_ps s)) + (-1))]) (by rw [m1_e]) rfl rfl ?_
        refine g_istore_n (L' := [(0, .ref u0), (1, .int (nI x)), (2, .int (nI (cntB (isB (sv_fs s) x) (sv_ps s)))), (3, .int ((nI (sv_ps s)) + (-1)))]) O dX9_strike_78 rfl (by decide) [1, 2, 3, 0] rfl ?_
        have J79 : ∀ (n_ : Nat), ∀ (m_ : Nat) (F_ : Nat → Int32) (hm : m_ ≤ sv_ps s) (hF : RM F_ (dsF s x m_)), sv_ps s + 1 - m_ < n_ → G X 0 0 79 [(0, .ref u0), (1, .int (nI x)), (2, .int (nI (cntB (isB (sv_fs s) x) (sv_ps s)))), (3, .int ((nI (sv_ps s - m_)) + (-1)))] [] [(u0, .inr (9, [.ref u1, .ref u2, .ref u3, .ref u4, .ref u5, .ref u6, .int (nI (rhN kn)), .ref u7, .int (bB ik), .ref u8, .int (nI ty), .ref u9, .int (nI ta), .int (bB iw), .ref u10, .ref u11])), (u5, .inl (tyI D, 208, .inl F_)), (u6, .inl (tyI D, 832, .inl (kwF Bf M kn)))] := by
          intro n_
          induction n_ with
          | zero => intro m_ F_ hm hF hm_; exact absurd hm_ (Nat.not_lt_zero _)
          | succ n_ ih_ =>
            intro m_ F_ hm hF hm_
            obtain ⟨hk1, hk2, hk3, hk4⟩ := dsF_k s x m_ hm
            by_cases hme : m_ = sv_ps s
            ·
              subst hme
              refine g_eq (L' := [(0, .ref u0), (1, .int (nI x)), (2, .int (nI (cntB (isB (sv_fs s) x) (sv_ps s)))), (3, .int (-1))]) rfl (by rw [Nat.sub_self, show nI 0 + (-1) = (-1 : Int32) from by decide +kernel]) rfl ?_
              refine g_iload_n O dX9_strike_79 3 rfl rfl ?_
              refine g_if_lt (tgt := 110) O dX9_strike_80 (by decide) (fun c_8 => ?_) (fun c_8 => absurd c_8 (by decide))
              refine g_iload_n O dX9_strike_110 2 rfl rfl ?_
              exact E 111 _ (nI (cntB (isB (sv_fs s) x) (sv_ps s))) _ dX9_strike_111 (⟨_, hF, rfl, rfl⟩)
            ·
              refine g_eq (L' := [(0, .ref u0), (1, .int (nI x)), (2, .int (nI (cntB (isB (sv_fs s) x) (sv_ps s)))), (3, .int (nI (sv_ps s - 1 - m_)))]) rfl (by rw [m1_e, pk_sub (by omega), show sv_ps s - m_ - 1 = sv_ps s - 1 - m_ by omega]) rfl ?_
              have hfm := hk4 (sv_ps s - 1 - m_) (by omega)
              have hpm := hpc (sv_ps s - 1 - m_) (by omega)
              refine g_iload_n O dX9_strike_79 3 rfl rfl ?_
              refine g_if_ltN (tgt := 110) O (by omega) dX9_strike_80 (by decide) ?_
              refine g_aload_n O dX9_strike_83 0 rfl rfl ?_
              refine g_get O hiX9_strike_X9 0 rfl rfl 4 (by decide) (by decide +kernel) rfl dX9_strike_84 ?_
              refine g_sipush (x := (nI 160)) O dX9_strike_87 (by decide +kernel) ?_
              refine g_iconst (x := (nI 3)) O dX9_strike_90 (by decide +kernel) ?_
              refine g_iload_n O dX9_strike_91 3 rfl rfl ?_
              refine g_imulN O dX9_strike_92 ?_
              refine g_iaddN O dX9_strike_93 ?_
              refine g_ialdN O 1 rfl (by omega) (by omega) dX9_strike_94 ?_
              refine g_eq (st' := [.int (nI (sv_fs s (sv_ps s - 1 - m_)))]) (by rw [(RM_b hF (show sv_ps s - 1 - m_ < sv_ps (dsF s x m_) by omega)).1, hfm]) rfl rfl ?_
              refine g_iload_n O dX9_strike_95 1 rfl rfl ?_
              refine g_icmp_neN (tgt := 104) O (by omega) (by omega) dX9_strike_96 (by decide) (fun c_10 => ?_) (fun c_10 => ?_)
              ·
                have hq2 : dsF s x (m_ + 1) = dsF s x m_ := by simp only [dsF]; rw [if_neg c_10]
                refine g_eq (L' := [(0, .ref u0), (1, .int (nI x)), (2, .int (nI (cntB (isB (sv_fs s) x) (sv_ps s)))), (3, .int (nI (sv_ps s - (m_ + 1))))]) rfl (by rw [show sv_ps s - 1 - m_ = sv_ps s - (m_ + 1) by omega]) rfl ?_
                refine g_iinc (L' := [(0, .ref u0), (1, .int (nI x)), (2, .int (nI (cntB (isB (sv_fs s) x) (sv_ps s)))), (3, .int ((nI (sv_ps s - (m_ + 1))) + (-1)))]) O dX9_strike_104 3 rfl (by rfl) (by decide) [1, 2, 3, 0] rfl ?_
                refine g_goto (tgt := 79) O dX9_strike_107 (by decide) ?_
                exact ih_ (m_ + 1) F_ (by omega) (by rw [hq2]; assumption) (by omega)
              ·
                have hq2 : dsF s x (m_ + 1) = rmS (dsF s x m_) (sv_ps s - 1 - m_) := by simp only [dsF]; rw [if_pos c_10]
                refine g_aload_n O dX9_strike_99 0 rfl rfl ?_
                refine g_iload_n O dX9_strike_100 3 rfl rfl ?_
                refine g_callV (As := [.int (nI (sv_ps s - 1 - m_))]) (wr := [(u6, .inl (tyI D, 832, .inl (kwF Bf M kn)))]) O (kX9_strikeAt l D z u0 u1 u2 u3 u4 u5 u6 u7 u8 u9 u10 u11 (rhN kn) ik ty ta iw F_ (dsF s x m_) (sv_ps s - 1 - m_) (by first | assumption | omega) (by first | assumption | omega) (by first | assumption | omega) (by first | assumption | omega)) gX9_strike_X9_strikeAt rfl rfl rfl 1 (by decide +kernel) (by decide) (by decide) (q0 := 0) rfl rfl rfl [0, 1] [2] rfl (by decide) rfl (by decide) (by decide) rfl rfl (Nat.le_of_ble_eq_true rfl) dX9_strike_101 (fun r_11 w_12 hp => ?_)
                obtain ⟨M9_13, hM9_14, rfl, rfl⟩ := hp
                refine g_eq (st' := []) (ws' := [(u6, .inl (tyI D, 832, .inl (kwF Bf M kn))), (u0, .inr (9, [.ref u1, .ref u2, .ref u3, .ref u4, .ref u5, .ref u6, .int (nI (rhN kn)), .ref u7, .int (bB ik), .ref u8, .int (nI ty), .ref u9, .int (nI ta), .int (bB iw), .ref u10, .ref u11])), (u5, .inl (tyI D, 208, .inl M9_13))]) rfl rfl rfl ?_
                refine g_eq (L' := [(0, .ref u0), (1, .int (nI x)), (2, .int (nI (cntB (isB (sv_fs s) x) (sv_ps s)))), (3, .int (nI (sv_ps s - (m_ + 1))))]) rfl (by rw [show sv_ps s - 1 - m_ = sv_ps s - (m_ + 1) by omega]) rfl ?_
                refine g_iinc (L' := [(0, .ref u0), (1, .int (nI x)), (2, .int (nI (cntB (isB (sv_fs s) x) (sv_ps s)))), (3, .int ((nI (sv_ps s - (m_ + 1))) + (-1)))]) O dX9_strike_104 3 rfl (by rfl) (by decide) [1, 2, 3, 0] rfl ?_
                refine g_goto (tgt := 79) O dX9_strike_107 (by decide) ?_
                refine g_perm (ws' := [(u0, .inr (9, [.ref u1, .ref u2, .ref u3, .ref u4, .ref u5, .ref u6, .int (nI (rhN kn)), .ref u7, .int (bB ik), .ref u8, .int (nI ty), .ref u9, .int (nI ta), .int (bB iw), .ref u10, .ref u11])), (u5, .inl (tyI D, 208, .inl M9_13)), (u6, .inl (tyI D, 832, .inl (kwF Bf M kn)))]) [1, 2, 0] rfl (by decide) ?_
                exact ih_ (m_ + 1) M9_13 (by omega) (by rw [hq2]; assumption) (by omega)
        exact J79 _ 0 M (Nat.zero_le _) (hM) (Nat.lt_succ_self _)
      ·
        have hpi := hpc i_ c_4
        refine g_iload_n O dX9_strike_27 2 rfl rfl ?_
        refine g_aload_n O dX9_strike_28 0 rfl rfl ?_
        refine g_get O hiX9_strike_X9 0 rfl rfl 4 (by decide) (by decide +kernel) rfl dX9_strike_29 ?_
        refine g_sipush (x := (nI 160)) O dX9_strike_32 (by decide +kernel) ?_
        refine g_iconst (x := (nI 3)) O dX9_strike_35 (by decide +kernel) ?_
        refine g_iload_n O dX9_strike_36 3 rfl rfl ?_
        refine g_imulN O dX9_strike_37 ?_
        refine g_iaddN O dX9_strike_38 ?_
        refine g_ialdN O 1 rfl (by omega) (by omega) dX9_strike_39 ?_
        refine g_eq (st' := [.int (nI (sv_fs s i_)), .int (nI (cntB (isB (sv_fs s) x) i_))]) (by rw [(RM_b hM (show i_ < sv_ps s by omega)).1]) rfl rfl ?_
        refine g_iload_n O dX9_strike_40 1 rfl rfl ?_
        refine g_icmp_neN (tgt := 48) O (by omega) (by omega) dX9_strike_41 (by decide) (fun c_15 => ?_) (fun c_15 => ?_)
        ·
          have hq : cntB (isB (sv_fs s) x) (i_ + 1) = cntB (isB (sv_fs s) x) i_ := cntB_f (by simp only [isB]; simp [c_15])
          refine g_iconst (x := (nI 0)) O dX9_strike_48 (by decide +kernel) ?_
          refine g_iaddN O dX9_strike_49 ?_
          refine g_eq (st' := [.int (nI (cntB (isB (sv_fs s) x) (i_ + 1)))]) (by rw [hq] <;> rfl) rfl rfl ?_
          refine g_istore_n (L' := [(0, .ref u0), (1, .int (nI x)), (2, .int (nI (cntB (isB (sv_fs s) x) (i_ + 1)))), (3, .int (nI i_))]) O dX9_strike_50 rfl (by decide) [1, 2, 0, 3] rfl ?_
          refine g_iincN (L' := [(0, .ref u0), (1, .int (nI x)), (2, .int (nI (cntB (isB (sv_fs s) x) (i_ + 1)))), (3, .int (nI (i_ + 1)))]) O dX9_strike_51 3 rfl (by decide) [1, 2, 3, 0] rfl ?_
          refine g_goto (tgt := 15) O dX9_strike_54 (by decide) ?_
          exact ih_ (i_ + 1) (by first | assumption | omega | rfl) (by omega)
        ·
          have hq : cntB (isB (sv_fs s) x) (i_ + 1) = cntB (isB (sv_fs s) x) i_ + 1 := cntB_t (by simp only [isB]; simp [c_15])
          refine g_iconst (x := (nI 1)) O dX9_strike_44 (by decide +kernel) ?_
          refine g_goto (tgt := 49) O dX9_strike_45 (by decide) ?_
          refine g_iaddN O dX9_strike_49 ?_
          refine g_eq (st' := [.int (nI (cntB (isB (sv_fs s) x) (i_ + 1)))]) (by rw [hq] <;> rfl) rfl rfl ?_
          refine g_istore_n (L' := [(0, .ref u0), (1, .int (nI x)), (2, .int (nI (cntB (isB (sv_fs s) x) (i_ + 1)))), (3, .int (nI i_))]) O dX9_strike_50 rfl (by decide) [1, 2, 0, 3] rfl ?_
          refine g_iincN (L' := [(0, .ref u0), (1, .int (nI x)), (2, .int (nI (cntB (isB (sv_fs s) x) (i_ + 1)))), (3, .int (nI (i_ + 1)))]) O dX9_strike_51 3 rfl (by decide) [1, 2, 3, 0] rfl ?_
          refine g_goto (tgt := 15) O dX9_strike_54 (by decide) ?_
          exact ih_ (i_ + 1) (by first | assumption | omega | rfl) (by omega)
  exact J15 _ 0 (Nat.zero_le _) (Nat.lt_succ_self _)
