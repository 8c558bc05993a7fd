set_option maxHeartbeats 2000000 in
set_option maxRecDepth 100000 in
/-- whether a way sounds with any bow -/
theorem kX9_isPossible (l : Launch) (D : va_G) (z : Nat × Nat × Nat) (u0 : Nat) (u1 : Nat) (u2 : Nat) (u3 : Nat) (u4 : Nat) (u5 : Nat) (u6 : Nat) (u7 : Nat) (u8 : Nat) (u9 : Nat) (u10 : Nat) (u11 : Nat) (kn : Nat) (ik : Bool) (ty : Nat) (ta : Nat) (iw : Bool) (M : Nat → Int32) (s : SV) (w : Nat) (hw : w < 48) (hM : RM M s) (hnc : sv_nc s ≤ 4) (hcc : ∀ j, j < sv_nc s → sv_cc s j < 12 ∧ sv_cr s j < 12) : CM l yX9_isPossible wsX9_isPossible ({ frames := 4, cells := 0, slots := 0, locals := 89 } : Room) D z [.ref u0, .int (nI w)] [(u0, .inr (9, [.ref u1, .ref u2, .ref u3, .ref u4, .ref u5, .ref u6, .int (nI kn), .ref u7, .int (bB ik), .ref u8, .int (nI ty), .ref u9, .int (nI ta), .int (bB iw), .ref u10, .ref u11])), (u4, .inl (tyI D, 6912, .inl SWT)), (u5, .inl (tyI D, 208, .inl M))] (fun r_ w_ => r_ = some (.int (bB (psO s w 48))) ∧ w_ = [(u0, .inr (9, [.ref u1, .ref u2, .ref u3, .ref u4, .ref u5, .ref u6, .int (nI kn), .ref u7, .int (bB ik), .ref u8, .int (nI ty), .ref u9, .int (nI ta), .int (bB iw), .ref u10, .ref u11])), (u4, .inl (tyI D, 6912, .inl SWT)), (u5, .inl (tyI D, 208, .inl M))]) 0 0 := by
  refine CM_bool (own := RX9) (cc := cX9_isPossible) (maxL := 4) (L0 := [(0, .ref u0), (1, .int (nI w))]) (by decide) rfl rfl (Nat.le_of_ble_eq_true rfl) rfl (fun X O E => ?_)
  refine g_iconst (x := (nI 0)) O dX9_isPossible_0 (by decide +kernel) ?_
  refine g_istore_n (L' := [(0, .ref u0), (1, .int (nI w)), (2, .int (nI 0))]) O dX9_isPossible_1 rfl (by decide) [1, 2, 0] rfl ?_
  refine g_iconst (x := (nI 0)) O dX9_isPossible_2 (by decide +kernel) ?_
  refine g_istore_n (L' := [(0, .ref u0), (1, .int (nI w)), (2, .int (nI 0)), (3, .int (nI 0))]) O dX9_isPossible_3 rfl (by decide) [1, 2, 3, 0] rfl ?_
  have J4 : ∀ (n_ : Nat), ∀ (i_ : Nat) (hi_ : i_ ≤ 48), 48 - i_ < n_ → G X 0 0 4 [(0, .ref u0), (1, .int (nI w)), (2, .int (bB (psO s w i_))), (3, .int (nI i_))] [] [(u0, .inr (9, [.ref u1, .ref u2, .ref u3, .ref u4, .ref u5, .ref u6, .int (nI kn), .ref u7, .int (bB ik), .ref u8, .int (nI ty), .ref u9, .int (nI ta), .int (bB iw), .ref u10, .ref u11])), (u4, .inl (tyI D, 6912, .inl SWT)), (u5, .inl (tyI D, 208, .inl M))] := by
    intro n_
    induction n_ with
    | zero => intro i_ hi_ hm_; exact absurd hm_ (Nat.not_lt_zero _)
    | succ n_ ih_ =>
      intro i_ hi_ hm_
      refine g_iload_n O dX9_isPossible_4 3 rfl rfl ?_
      refine g_bipush (x := (nI 48)) O dX9_isPossible_5 (by decide +kernel) ?_
      refine g_icmp_geN (tgt := 45) O (by omega) (by omega) dX9_isPossible_7 (by decide) (fun c_1 => ?_) (fun c_1 => ?_)
      ·
        obtain rfl : i_ = 48 := by omega
        refine g_iload_n O dX9_isPossible_45 2 rfl rfl ?_
        exact E 46 _ (psO s w 48) _ dX9_isPossible_46 (by first | exact ⟨rfl, rfl⟩ | (rw [hq]; simp_all))
      ·
        refine g_iload_n O dX9_isPossible_10 2 rfl rfl ?_
        refine g_if_neB (tgt := 45) O dX9_isPossible_11 (by decide) (fun c_2 => ?_) (fun c_2 => ?_)
        ·
          have hq : psO s w 48 = true := psO_up c_2 (by omega)
          refine g_iload_n O dX9_isPossible_45 2 rfl rfl ?_
          exact E 46 _ (psO s w i_) _ dX9_isPossible_46 (by first | exact ⟨rfl, rfl⟩ | (rw [hq]; simp_all))
        ·
          have c_2 := c_2
          refine g_aload_n O dX9_isPossible_14 0 rfl rfl ?_
          refine g_iload_n O dX9_isPossible_15 3 rfl rfl ?_
          refine g_bipush (x := (nI 12)) O dX9_isPossible_16 (by decide +kernel) ?_
          refine g_idivN O (by omega) (by omega) (by omega) dX9_isPossible_18 ?_
          refine g_iload_n O dX9_isPossible_19 3 rfl rfl ?_
          refine g_bipush (x := (nI 12)) O dX9_isPossible_20 (by decide +kernel) ?_
          refine g_iremN O (by omega) (by omega) (by omega) dX9_isPossible_22 ?_
          refine g_callS (As := [.int (nI (i_ / 12)), .int (nI (i_ % 12))]) (wr := [(u0, .inr (9, [.ref u1, .ref u2, .ref u3, .ref u4, .ref u5, .ref u6, .int (nI kn), .ref u7, .int (bB ik), .ref u8, .int (nI ty), .ref u9, .int (nI ta), .int (bB iw), .ref u10, .ref u11])), (u4, .inl (tyI D, 6912, .inl SWT)), (u5, .inl (tyI D, 208, .inl M))]) O (kX9_bowPlace l D z (i_ / 12) (i_ % 12) (by first | assumption | omega)) gX9_isPossible_X9_bowPlace rfl rfl rfl 2 (by decide +kernel) (by decide) (by decide) [] [0, 1, 2] rfl (by decide) rfl (by decide) (by decide) rfl rfl (Nat.le_of_ble_eq_true rfl) dX9_isPossible_23 (fun r_3 w_4 hp => ?_)
          obtain ⟨rfl, rfl⟩ := hp
          refine g_eq (st' := [.int (nI (bpN (i_ / 12) (i_ % 12))), .ref u0]) (ws' := [(u0, .inr (9, [.ref u1, .ref u2, .ref u3, .ref u4, .ref u5, .ref u6, .int (nI kn), .ref u7, .int (bB ik), .ref u8, .int (nI ty), .ref u9, .int (nI ta), .int (bB iw), .ref u10, .ref u11])), (u4, .inl (tyI D, 6912, .inl SWT)), (u5, .inl (tyI D, 208, .inl M))]) rfl rfl rfl ?_
          refine g_callV (As := [.int (nI (bpN (i_ / 12) (i_ % 12)))]) (wr := []) O (kX9_soundsAt l D z u0 u1 u2 u3 u4 u5 u6 u7 u8 u9 u10 u11 kn ik ty ta iw M s (bpN (i_ / 12) (i_ % 12)) (by first | assumption | omega | exact bpN_lt (by omega)) (by first | assumption | omega | exact bpN_lt (by omega)) (by first | assumption | omega | exact bpN_lt (by omega)) (by first | assumption | omega | exact bpN_lt (by omega))) gX9_isPossible_X9_soundsAt rfl rfl rfl 1 (by decide +kernel) (by decide) (by decide) (q0 := 0) rfl rfl rfl [0, 1, 2] [] rfl (by decide) rfl (by decide) (by decide) rfl rfl (Nat.le_of_ble_eq_true rfl) dX9_isPossible_26 (fun r_5 w_6 hp => ?_)
          obtain ⟨rfl, rfl⟩ := hp
          refine g_eq (st' := [.int (orN (wyO s (bpN (i_ / 12) (i_ % 12))))]) (ws' := [(u0, .inr (9, [.ref u1, .ref u2, .ref u3, .ref u4, .ref u5, .ref u6, .int (nI kn), .ref u7, .int (bB ik), .ref u8, .int (nI ty), .ref u9, .int (nI ta), .int (bB iw), .ref u10, .ref u11])), (u4, .inl (tyI D, 6912, .inl SWT)), (u5, .inl (tyI D, 208, .inl M))]) rfl rfl rfl ?_
          refine g_iload_n O dX9_isPossible_29 1 rfl rfl ?_
          refine g_icmp_ne (tgt := 37) O dX9_isPossible_30 (by decide) (fun c_7 => ?_) (fun c_7 => ?_)
          ·
            have hq : psO s w (i_ + 1) = false := by simp only [psO]; rw [c_2, decide_eq_false (fun h => c_7 ((orN_eq wy_lt (by omega)).mpr h))]; rfl
            refine g_iconst (x := (nI 0)) O dX9_isPossible_37 (by decide +kernel) ?_
            refine g_eq (st' := [.int (bB (psO s w (i_ + 1)))]) (by rw [hq]; rfl) rfl rfl ?_
            refine g_istore_n (L' := [(0, .ref u0), (1, .int (nI w)), (2, .int (bB (psO s w (i_ + 1)))), (3, .int (nI i_))]) O dX9_isPossible_38 rfl (by decide) [1, 2, 0, 3] rfl ?_
            refine g_iincN (L' := [(0, .ref u0), (1, .int (nI w)), (2, .int (bB (psO s w (i_ + 1)))), (3, .int (nI (i_ + 1)))]) O dX9_isPossible_39 3 rfl (by decide) [1, 2, 3, 0] rfl ?_
            refine g_goto (tgt := 4) O dX9_isPossible_42 (by decide) ?_
            exact ih_ (i_ + 1) (by first | assumption | omega | rfl) (by omega)
          ·
            have hq : psO s w (i_ + 1) = true := by simp only [psO]; rw [decide_eq_true ((orN_eq wy_lt (by omega)).mp c_7)]; simp
            refine g_iconst (x := (nI 1)) O dX9_isPossible_33 (by decide +kernel) ?_
            refine g_goto (tgt := 38) O dX9_isPossible_34 (by decide) ?_
            refine g_eq (st' := [.int (bB (psO s w (i_ + 1)))]) (by rw [hq]; rfl) rfl rfl ?_
            refine g_istore_n (L' := [(0, .ref u0), (1, .int (nI w)), (2, .int (bB (psO s w (i_ + 1)))), (3, .int (nI i_))]) O dX9_isPossible_38 rfl (by decide) [1, 2, 0, 3] rfl ?_
            refine g_iincN (L' := [(0, .ref u0), (1, .int (nI w)), (2, .int (bB (psO s w (i_ + 1)))), (3, .int (nI (i_ + 1)))]) O dX9_isPossible_39 3 rfl (by decide) [1, 2, 3, 0] rfl ?_
            refine g_goto (tgt := 4) O dX9_isPossible_42 (by decide) ?_
            exact ih_ (i_ + 1) (by first | assumption | omega | rfl) (by omega)
  exact J4 _ 0 (Nat.zero_le _) (Nat.lt_succ_self _)

theorem hiX9_allGrains_X9 : ∀ w ∈ wsX90, w ∈ wsX9_allGrains := by intro w h; simp only [wsX9_allGrains, List.mem_append, List.mem_cons, h, or_true, true_or]
set_option maxHeartbeats 2000000 in
set_option maxRecDepth 100000 in
/-- all grains -/
theorem kX9_allGrains (l : Launch) (D : va_G) (z : Nat × Nat × Nat) (u0 : Nat) (u1 : Nat) (u2 : Nat) (u3 : Nat) (u4 : Nat) (u5 : Nat) (u6 : Nat) (u7 : Nat) (u8 : Nat) (u9 : Nat) (u10 : Nat) (u11 : Nat) (kn : Nat) (ik : Bool) (ty : Nat) (ta : Nat) (iw : Bool) (M : Nat → Int32) (s : SV) (hM : RM M s) : CM l yX9_allGrains wsX9_allGrains ({ frames := 0, cells := 0, slots := 0, locals := 0 } : Room) D z [.ref u0] [(u0, .inr (9, [.ref u1, .ref u2, .ref u3, .ref u4, .ref u5, .ref u6, .int (nI kn), .ref u7, .int (bB ik), .ref u8, .int (nI ty), .ref u9, .int (nI ta), .int (bB iw), .ref u10, .ref u11])), (u5, .inl (tyI D, 208, .inl M))] (fun r_ w_ => r_ = some (.int (nI (smN (sv_g s) 144))) ∧ w_ = [(u0, .inr (9, [.ref u1, .ref u2, .ref u3, .ref u4, .ref u5, .ref u6, .int (nI kn), .ref u7, .int (bB ik), .ref u8, .int (nI ty), .ref u9, .int (nI ta), .int (bB iw), .ref u10, .ref u11])), (u5, .inl (tyI D, 208, .inl M))]) 0 0 := by
  refine CM_int (own := RX9) (cc := cX9_allGrains) (maxL := 3) (L0 := [(0, .ref u0)]) (by decide) rfl rfl (Nat.le_of_ble_eq_true rfl) rfl (fun X O E => ?_)
  refine g_iconst (x := (nI 0)) O dX9_allGrains_0 (by decide +kernel) ?_
  refine g_istore_n (L' := [(0, .ref u0), (1, .int (nI 0))]) O dX9_allGrains_1 rfl (by decide) [1, 0] rfl ?_
  refine g_iconst (x := (nI 0)) O dX9_allGrains_2 (by decide +kernel) ?_
  refine g_istore_n (L' := [(0, .ref u0), (1, .int (nI 0)), (2, .int (nI 0))]) O dX9_allGrains_3 rfl (by decide) [1, 2, 0] rfl ?_
  have J4 : ∀ (n_ : Nat), ∀ (i_ : Nat) (hi_ : i_ ≤ 144), 144 - i_ < n_ → G X 0 0 4 [(0, .ref u0), (1, .int (nI (smN (sv_g s) i_))), (2, .int (nI i_))] [] [(u0, .inr (9, [.ref u1, .ref u2, .ref u3, .ref u4, .ref u5, .ref u6, .int (nI kn), .ref u7, .int (bB ik), .ref u8, .int (nI ty), .ref u9, .int (nI ta), .int (bB iw), .ref u10, .ref u11])), (u5, .inl (tyI D, 208, .inl M))] := by
    intro n_
    induction n_ with
    | zero => intro i_ hi_ hm_; exact absurd hm_ (Nat.not_lt_zero _)
    | succ n_ ih_ =>
      intro i_ hi_ hm_
      refine g_iload_n O dX9_allGrains_4 2 rfl rfl ?_
      refine g_sipush (x := (nI 144)) O dX9_allGrains_5 (by decide +kernel) ?_
      refine g_icmp_geN (tgt := 28) O (by omega) (by omega) dX9_allGrains_8 (by decide) (fun c_1 => ?_) (fun c_1 => ?_)
      ·
        obtain rfl : i_ = 144 := by omega
        refine g_iload_n O dX9_allGrains_28 1 rfl rfl ?_
        exact E 29 _ (nI (smN (sv_g s) 144)) _ dX9_allGrains_29 ⟨rfl, rfl⟩
      ·
        refine g_iload_n O dX9_allGrains_11 1 rfl rfl ?_
        refine g_aload_n O dX9_allGrains_12 0 rfl rfl ?_
        refine g_get O hiX9_allGrains_X9 0 rfl rfl 4 (by decide) (by decide +kernel) rfl dX9_allGrains_13 ?_
        refine g_iconst (x := (nI 0)) O dX9_allGrains_16 (by decide +kernel) ?_
        refine g_iload_n O dX9_allGrains_17 2 rfl rfl ?_
        refine g_iaddN O dX9_allGrains_18 ?_
        refine g_ialdN O 1 rfl (by omega) (by omega) dX9_allGrains_19 ?_
        refine g_eq (st' := [.int (nI (sv_g s i_)), .int (nI (smN (sv_g s) i_))]) (by rw [RM_g0 hM (show i_ < 144 by omega)]) rfl rfl ?_
        refine g_iaddN O dX9_allGrains_20 ?_
        refine g_istore_n (L' := [(0, .ref u0), (1, .int (nI ((smN (sv_g s) i_) + (sv_g s i_)))), (2, .int (nI i_))]) O dX9_allGrains_21 rfl (by decide) [1, 0, 2] rfl ?_
        refine g_iincN (L' := [(0, .ref u0), (1, .int (nI ((smN (sv_g s) i_) + (sv_g s i_)))), (2, .int (nI (i_ + 1)))]) O dX9_allGrains_22 2 rfl (by decide) [1, 2, 0] rfl ?_
        refine g_goto (tgt := 4) O dX9_allGrains_25 (by decide) ?_
        exact ih_ (i_ + 1) (by first | assumption | omega | rfl) (by omega)
  exact J4 _ 0 (Nat.zero_le _) (Nat.lt_succ_self _)

theorem hiX9_mostGrains_X9 : ∀ w ∈ wsX90, w ∈ wsX9_mostGrains := by intro w h; simp only [wsX9_mostGrains, List.mem_append, List.mem_cons, h, or_true, true_or]
set_option maxHeartbeats 2000000 in
set_option maxRecDepth 100000 in
/-- the most grains -/
theorem kX9_mostGrains (l : Launch) (D : va_G) (z : Nat × Nat × Nat) (u0 : Nat) (u1 : Nat) (u2 : Nat) (u3 : Nat) (u4 : Nat) (u5 : Nat) (u6 : Nat) (u7 : Nat) (u8 : Nat) (u9 : Nat) (u10 : Nat) (u11 : Nat) (kn : Nat) (ik : Bool) (ty : Nat) (ta : Nat) (iw : Bool) (M : Nat → Int32) (s : SV) (hM : RM M s) (hg : ∀ j, j < 144 → sv_g s j < 1073741824) : CM l yX9_mostGrains wsX9_mostGrains ({ frames := 0, cells := 0, slots := 0, locals := 0 } : Room) D z [.ref u0] [(u0, .inr (9, [.ref u1, .ref u2, .ref u3, .ref u4, .ref u5, .ref u6, .int (nI kn), .ref u7, .int (bB ik), .ref u8, .int (nI ty), .ref u9, .int (nI ta), .int (bB iw), .ref u10, .ref u11])), (u5, .inl (tyI D, 208, .inl M))] (fun r_ w_ => r_ = some (.int (nI (mxN (sv_g s) 144))) ∧ w_ = [(u0, .inr (9, [.ref u1, .ref u2, .ref u3, .ref u4, .ref u5, .ref u6, .int (nI kn), .ref u7, .int (bB ik), .ref u8, .int (nI ty), .ref u9, .int (nI ta), .int (bB iw), .ref u10, .ref u11])), (u5, .inl (tyI D, 208, .inl M))]) 0 0 := by
  refine CM_int (own := RX9) (cc := cX9_mostGrains) (maxL := 3) (L0 := [(0, .ref u0)]) (by decide) rfl rfl (Nat.le_of_ble_eq_true rfl) rfl (fun X O E => ?_)
  refine g_iconst (x := (nI 0)) O dX9_mostGrains_0 (by decide +kernel) ?_
  refine g_istore_n (L' := [(0, .ref u0), (1, .int (nI 0))]) O dX9_mostGrains_1 rfl (by decide) [1, 0] rfl ?_
  refine g_iconst (x := (nI 0)) O dX9_mostGrains_2 (by decide +kernel) ?_
  refine g_istore_n (L' := [(0, .ref u0), (1, .int (nI 0)), (2, .int (nI 0))]) O dX9_mostGrains_3 rfl (by decide) [1, 2, 0] rfl ?_
  have J4 : ∀ (n_ : Nat), ∀ (i_ : Nat) (hi_ : i_ ≤ 144), 144 - i_ < n_ → G X 0 0 4 [(0, .ref u0), (1, .int (nI (mxN (sv_g s) i_))), (2, .int (nI i_))] [] [(u0, .inr (9, [.ref u1, .ref u2, .ref u3, .ref u4, .ref u5, .ref u6, .int (nI kn), .ref u7, .int (bB ik), .ref u8, .int (nI ty), .ref u9, .int (nI ta), .int (bB iw), .ref u10, .ref u11])), (u5, .inl (tyI D, 208, .inl M))] := by
    intro n_
    induction n_ with
    | zero => intro i_ hi_ hm_; exact absurd hm_ (Nat.not_lt_zero _)
    | succ n_ ih_ =>
      intro i_ hi_ hm_
      refine g_iload_n O dX9_mostGrains_4 2 rfl rfl ?_
      refine g_sipush (x := (nI 144)) O dX9_mostGrains_5 (by decide +kernel) ?_
      refine g_icmp_geN (tgt := 42) O (by omega) (by omega) dX9_mostGrains_8 (by decide) (fun c_1 => ?_) (fun c_1 => ?_)
      ·
        obtain rfl : i_ = 144 := by omega
        refine g_iload_n O dX9_mostGrains_42 1 rfl rfl ?_
        exact E 43 _ (nI (mxN (sv_g s) 144)) _ dX9_mostGrains_43 ⟨rfl, rfl⟩
      ·
        have hgi := hg i_ c_1
        have hmx := mxN_lt (g := sv_g s) (b := 1073741824) (n := i_) (by omega) (fun j hj => hg j (by omega))
        refine g_aload_n O dX9_mostGrains_11 0 rfl rfl ?_
        refine g_get O hiX9_mostGrains_X9 0 rfl rfl 4 (by decide) (by decide +kernel) rfl dX9_mostGrains_12 ?_
        refine g_iconst (x := (nI 0)) O dX9_mostGrains_15 (by decide +kernel) ?_
        refine g_iload_n O dX9_mostGrains_16 2 rfl rfl ?_
        refine g_iaddN O dX9_mostGrains_17 ?_
        refine g_ialdN O 1 rfl (by omega) (by omega) dX9_mostGrains_18 ?_
        refine g_eq (st' := [.int (nI (sv_g s i_))]) (by rw [RM_g0 hM (show i_ < 144 by omega)]) rfl rfl ?_
        refine g_iload_n O dX9_mostGrains_19 1 rfl rfl ?_
        refine g_icmp_leN (tgt := 34) O (by omega) (by omega) dX9_mostGrains_20 (by decide) (fun c_2 => ?_) (fun c_2 => ?_)
        ·
          have hq : mxN (sv_g s) (i_ + 1) = mxN (sv_g s) i_ := by simp only [mxN]; omega
          refine g_iload_n O dX9_mostGrains_34 1 rfl rfl ?_
          refine g_eq (st' := [.int (nI (mxN (sv_g s) (i_ + 1)))]) (by rw [hq] <;> rfl) rfl rfl ?_
          refine g_istore_n (L' := [(0, .ref u0), (1, .int (nI (mxN (sv_g s) (i_ + 1)))), (2, .int (nI i_))]) O dX9_mostGrains_35 rfl (by decide) [1, 0, 2] rfl ?_
          refine g_iincN (L' := [(0, .ref u0), (1, .int (nI (mxN (sv_g s) (i_ + 1)))), (2, .int (nI (i_ + 1)))]) O dX9_mostGrains_36 2 rfl (by decide) [1, 2, 0] rfl ?_
          refine g_goto (tgt := 4) O dX9_mostGrains_39 (by decide) ?_
          exact ih_ (i_ + 1) (by first | assumption | omega | rfl) (by omega)
        ·
          have hq : mxN (sv_g s) (i_ + 1) = sv_g s i_ := by simp only [mxN]; omega
          refine g_aload_n O dX9_mostGrains_23 0 rfl rfl ?_
          refine g_get O hiX9_mostGrains_X9 0 rfl rfl 4 (by decide) (by decide +kernel) rfl dX9_mostGrains_24 ?_
          refine g_iconst (x := (nI 0)) O dX9_mostGrains_27 (by decide +kernel) ?_
          refine g_iload_n O dX9_mostGrains_28 2 rfl rfl ?_
          refine g_iaddN O dX9_mostGrains_29 ?_
          refine g_ialdN O 1 rfl (by omega) (by omega) dX9_mostGrains_30 ?_
          refine g_eq (st' := [.int (nI (sv_g s i_))]) (by rw [RM_g0 hM (show i_ < 144 by omega)]) rfl rfl ?_
          refine g_goto (tgt := 35) O dX9_mostGrains_31 (by decide) ?_
          refine g_eq (st' := [.int (nI (mxN (sv_g s) (i_ + 1)))]) (by rw [hq] <;> rfl) rfl rfl ?_
          refine g_istore_n (L' := [(0, .ref u0), (1, .int (nI (mxN (sv_g s) (i_ + 1)))), (2, .int (nI i_))]) O dX9_mostGrains_35 rfl (by decide) [1, 0, 2] rfl ?_
          refine g_iincN (L' := [(0, .ref u0), (1, .int (nI (mxN (sv_g s) (i_ + 1)))), (2, .int (nI (i_ + 1)))]) O dX9_mostGrains_36 2 rfl (by decide) [1, 2, 0] rfl ?_
          refine g_goto (tgt := 4) O dX9_mostGrains_39 (by decide) ?_
          exact ih_ (i_ + 1) (by first | assumption | omega | rfl) (by omega)
  exact J4 _ 0 (Nat.zero_le _) (Nat.lt_succ_self _)

theorem hiX9_clampOn_X9 : ∀ w ∈ wsX90, w ∈ wsX9_clampOn := by intro w h; simp only [wsX9_clampOn, List.mem_append, List.mem_cons, h, or_true, true_or]
set_option maxHeartbeats 2000000 in
set_option maxRecDepth 100000 in
/-- the clamp at a place -/
theorem kX9_clampOn (l : Launch) (D : va_G) (z : Nat × Nat × Nat) (u0 : Nat) (u1 : Nat) (u2 : Nat) (u3 : Nat) (u4 : Nat) (u5 : Nat) (u6 : Nat) (u7 : Nat) (u8 : Nat) (u9 : Nat) (u10 : Nat) (u11 : Nat) (kn : Nat) (ik : Bool) (ty : Nat) (ta : Nat) (iw : Bool) (M : Nat → Int32) (s : SV) (p : Nat) (hp : p < 144) (hM : RM M s) (hnc : sv_nc s ≤ 4) (hcc : ∀ j, j < sv_nc s → sv_cc s j < 12 ∧ sv_cr s j < 12) : CM l yX9_clampOn wsX9_clampOn ({ frames := 0, cells := 0, slots := 0, locals := 0 } : Room) D z [.ref u0, .int (nI p)] [(u0, .inr (9, [.ref u1, .ref u2, .ref u3, .ref u4, .ref u5, .ref u6, .int (nI kn), .ref u7, .int (bB ik), .ref u8, .int (nI ty), .ref u9, .int (nI ta), .int (bB iw), .ref u10, .ref u11])), (u5, .inl (tyI D, 208, .inl M))] (fun r_ w_ => r_ = some (.int (orN (fdB (fun j => decide (12 * sv_cr s j + sv_cc s j = p)) (sv_nc s)))) ∧ w_ = [(u0, .inr (9, [.ref u1, .ref u2, .ref u3, .ref u4, .ref u5, .ref u6, .int (nI kn), .ref u7, .int (bB ik), .ref u8, .int (nI ty), .ref u9, .int (nI ta), .int (bB iw), .ref u10, .ref u11])), (u5, .inl (tyI D, 208, .inl M))]) 0 0 := by
  refine CM_int (own := RX9) (cc := cX9_clampOn) (maxL := 3) (L0 := [(0, .ref u0), (1, .int (nI p))]) (by decide) rfl rfl (Nat.le_of_ble_eq_true rfl) rfl (fun X O E => ?_)
  refine g_iconst (x := (nI 0)) O dX9_clampOn_0 (by decide +kernel) ?_
  refine g_istore_n (L' := [(0, .ref u0), (1, .int (nI p)), (2, .int (nI 0))]) O dX9_clampOn_1 rfl (by decide) [1, 2, 0] rfl ?_
  have J2 : ∀ (n_ : Nat), ∀ (i_ : Nat) (hi_ : i_ ≤ sv_nc s) (hno : ∀ j, j < i_ → decide (12 * sv_cr s j + sv_cc s j = p) = false), sv_nc s - i_ < n_ → G X 0 0 2 [(0, .ref u0), (1, .int (nI p)), (2, .int (nI i_))] [] [(u0, .inr (9, [.ref u1, .ref u2, .ref u3, .ref u4, .ref u5, .ref u6, .int (nI kn), .ref u7, .int (bB ik), .ref u8, .int (nI ty), .ref u9, .int (nI ta), .int (bB iw), .ref u10, .ref u11])), (u5, .inl (tyI D, 208, .inl M))] := by
    intro n_
    induction n_ with
    | zero => intro i_ hi_ hno hm_; exact absurd hm_ (Nat.not_lt_zero _)
    | succ n_ ih_ =>
      intro i_ hi_ hno hm_
      refine g_iload_n O dX9_clampOn_2 2 rfl rfl ?_
      refine g_aload_n O dX9_clampOn_3 0 rfl rfl ?_
      refine g_get O hiX9_clampOn_X9 0 rfl rfl 4 (by decide) (by decide +kernel) rfl dX9_clampOn_4 ?_
      refine g_sipush (x := (nI 154)) O dX9_clampOn_7 (by decide +kernel) ?_
      refine g_ialdN O 1 rfl (by omega) (by omega) dX9_clampOn_10 ?_
      refine g_eq (st' := [.int (nI (sv_nc s)), .int (nI i_)]) (by rw [RM_nc hM]) rfl rfl ?_
      refine g_icmp_geN (tgt := 36) O (by omega) (by omega) dX9_clampOn_11 (by decide) (fun c_1 => ?_) (fun c_1 => ?_)
      ·
        obtain rfl : i_ = sv_nc s := by omega
        refine g_bipush (x := (-5)) O dX9_clampOn_36 (by decide +kernel) ?_
        exact E 38 _ (-5) _ dX9_clampOn_38 (by rw [fdB_none.mpr hno]; exact ⟨rfl, rfl⟩)
      ·
        have hci := hcc i_ c_1
        refine g_aload_n O dX9_clampOn_14 0 rfl rfl ?_
        refine g_get O hiX9_clampOn_X9 0 rfl rfl 4 (by decide) (by decide +kernel) rfl dX9_clampOn_15 ?_
        refine g_sipush (x := (nI 155)) O dX9_clampOn_18 (by decide +kernel) ?_
        refine g_iload_n O dX9_clampOn_21 2 rfl rfl ?_
        refine g_iaddN O dX9_clampOn_22 ?_
        refine g_ialdN O 1 rfl (by omega) (by omega) dX9_clampOn_23 ?_
        refine g_eq (st' := [.int (nI (12 * sv_cr s i_ + sv_cc s i_))]) (by rw [RM_cl hM (show i_ < sv_nc s by omega)]) rfl rfl ?_
        refine g_iload_n O dX9_clampOn_24 1 rfl rfl ?_
        refine g_icmp_neN (tgt := 30) O (by omega) (by omega) dX9_clampOn_25 (by decide) (fun c_2 => ?_) (fun c_2 => ?_)
        ·
          refine g_iincN (L' := [(0, .ref u0), (1, .int (nI p)), (2, .int (nI (i_ + 1)))]) O dX9_clampOn_30 2 rfl (by decide) [1, 2, 0] rfl ?_
          refine g_goto (tgt := 2) O dX9_clampOn_33 (by decide) ?_
          exact ih_ (i_ + 1) (by first | assumption | omega | rfl) (fun j hj => by rcases Nat.lt_succ_iff_lt_or_eq.mp hj with h | h; exact hno j h; subst h; exact decide_eq_false (by assumption)) (by omega)
        ·
          refine g_iload_n O dX9_clampOn_28 2 rfl rfl ?_
          exact E 29 _ (nI i_) _ dX9_clampOn_29 (by rw [fdB_some.mpr ⟨by omega, decide_eq_true (by omega), hno⟩]; exact ⟨rfl, rfl⟩)
  exact J2 _ 0 (Nat.zero_le _) (fun j hj => absurd hj (Nat.not_lt_zero _)) (Nat.lt_succ_self _)

theorem hiX9_isStill_X9 : ∀ w ∈ wsX90, w ∈ wsX9_isStill := by intro w h; simp only [wsX9_isStill, List.mem_append, List.mem_cons, h, or_true, true_or]
set_option maxHeartbeats 2000000 in
set_option maxRecDepth 100000 in
/-- whether a place is still -/
theorem kX9_isStill (l : Launch) (D : va_G) (z : Nat × Nat × Nat) (u0 : Nat) (u1 : Nat) (u2 : Nat) (u3 : Nat) (u4 : Nat) (u5 : Nat) (u6 : Nat) (u7 : Nat) (u8 : Nat) (u9 : Nat) (u10 : Nat) (u11 : Nat) (kn : Nat) (ik : Bool) (ty : Nat) (ta : Nat) (iw : Bool) (M : Nat → Int32) (s : SV) (w : Nat) (p : Nat) (hw : w < 48) (hp : p < 144) (hM : RM M s) : CM l yX9_isStill wsX9_isStill ({ frames := 1, cells := 0, slots := 0, locals := 22 } : Room) D z [.ref u0, .int (nI w), .int (nI p)] [(u0, .inr (9, [.ref u1, .ref u2, .ref u3, .ref u4, .ref u5, .ref u6, .int (nI kn), .ref u7, .int (bB ik), .ref u8, .int (nI ty), .ref u9, .int (nI ta), .int (bB iw), .ref u10, .ref u11])), (u4, .inl (tyI D, 6912, .inl SWT)), (u5, .inl (tyI D, 208, .inl M))] (fun r_ w_ => r_ = some (.int (bB (stB s w p))) ∧ w_ = [(u0, .inr (9, [.ref u1, .ref u2, .ref u3, .ref u4, .ref u5, .ref u6, .int (nI kn), .ref u7, .int (bB ik), .ref u8, .int (nI ty), .ref u9, .int (nI ta), .int (bB iw), .ref u10, .ref u11])), (u4, .inl (tyI D, 6912, .inl SWT)), (u5, .inl (tyI D, 208, .inl M))]) 0 0 := by
  refine CM_bool (own := RX9) (cc := cX9_isStill) (maxL := 3) (L0 := [(0, .ref u0), (1, .int (nI w)), (2, .int (nI p))]) (by decide) rfl rfl (Nat.le_of_ble_eq_true rfl) rfl (fun X O E => ?_)
  refine g_aload_n O dX9_isStill_0 0 rfl rfl ?_
  refine g_iload_n O dX9_isStill_1 1 rfl rfl ?_
  refine g_iload_n O dX9_isStill_2 2 rfl rfl ?_
  refine g_callV (As := [.int (nI w), .int (nI p)]) (wr := [(u5, .inl (tyI D, 208, .inl M))]) O (kX9_swingAt l D z u0 u1 u2 u3 u4 u5 u6 u7 u8 u9 u10 u11 kn ik ty ta iw w p (by first | assumption | omega) (by first | assumption | omega)) gX9_isStill_X9_swingAt rfl rfl rfl 2 (by decide +kernel) (by decide) (by decide) (q0 := 0) rfl rfl rfl [0, 1] [2] rfl (by decide) rfl (by decide) (by decide) rfl rfl (Nat.le_of_ble_eq_true rfl) dX9_isStill_3 (fun r_1 w_2 hp => ?_)
  obtain ⟨rfl, rfl⟩ := hp
  refine g_eq (st' := [.int (SW w p)]) (ws' := [(u5, .inl (tyI D, 208, .inl M)), (u0, .inr (9, [.ref u1, .ref u2, .ref u3, .ref u4, .ref u5, .ref u6, .int (nI kn), .ref u7, .int (bB ik), .ref u8, .int (nI ty), .ref u9, .int (nI ta), .int (bB iw), .ref u10, .ref u11])), (u4, .inl (tyI D, 6912, .inl SWT))]) rfl rfl rfl ?_
  refine g_aload_n O dX9_isStill_6 0 rfl rfl ?_
  refine g_get O hiX9_isStill_X9 1 rfl rfl 4 (by decide) (by decide +kernel) rfl dX9_isStill_7 ?_
  refine g_sipush (x := (nI 146)) O dX9_isStill_10 (by decide +kernel) ?_
  refine g_ialdN O 0 rfl (by omega) (by omega) dX9_isStill_13 ?_
  refine g_eq (st' := [.int (sv_se s 2), .int (SW w p)]) (by rw [RM_s2 hM]) rfl rfl ?_
  refine g_icmp_gt (tgt := 21) O dX9_isStill_14 (by decide) (fun c_3 => ?_) (fun c_3 => ?_)
  ·
    have he : stB s w p = false := by simp only [stB]; exact decide_eq_false (Int32.not_le.mpr c_3)
    refine g_iconst (x := (nI 0)) O dX9_isStill_21 (by decide +kernel) ?_
    refine g_perm (ws' := [(u0, .inr (9, [.ref u1, .ref u2, .ref u3, .ref u4, .ref u5, .ref u6, .int (nI kn), .ref u7, .int (bB ik), .ref u8, .int (nI ty), .ref u9, .int (nI ta), .int (bB iw), .ref u10, .ref u11])), (u4, .inl (tyI D, 6912, .inl SWT)), (u5, .inl (tyI D, 208, .inl M))]) [1, 2, 0] rfl (by decide) ?_
    refine g_eq (st' := [.int (bB false)]) rfl rfl rfl ?_
    exact E 22 _ false _ dX9_isStill_22 (by rw [he]; exact ⟨rfl, rfl⟩)
  ·
    have he : stB s w p = true := by simp only [stB]; exact decide_eq_true (Int32.not_lt.mp c_3)
    refine g_iconst (x := (nI 1)) O dX9_isStill_17 (by decide +kernel) ?_
    refine g_goto (tgt := 22) O dX9_isStill_18 (by decide) ?_
    refine g_perm (ws' := [(u0, .inr (9, [.ref u1, .ref u2, .ref u3, .ref u4, .ref u5, .ref u6, .int (nI kn), .ref u7, .int (bB ik), .ref u8, .int (nI ty), .ref u9, .int (nI ta), .int (bB iw), .ref u10, .ref u11])), (u4, .inl (tyI D, 6912, .inl SWT)), (u5, .inl (tyI D, 208, .inl M))]) [1, 2, 0] rfl (by decide) ?_
    refine g_eq (st' := [.int (bB true)]) rfl rfl rfl ?_
    exact E 22 _ true _ dX9_isStill_22 (by rw [he]; exact ⟨rfl, rfl⟩)

set_option maxHeartbeats 2000000 in
set_option maxRecDepth 100000 in
/-- still places, or their grains -/
theorem kX9_still4 (l : Launch) (D : va_G) (z : Nat × Nat × Nat) (u0 : Nat) (u1 : Nat) (u2 : Nat) (u3 : Nat) (u4 : Nat) (u5 : Nat) (u6 : Nat) (u7 : Nat) (u8 : Nat) (u9 : Nat) (u10 : Nat) (u11 : Nat) (kn : Nat) (ik : Bool) (ty : Nat) (ta : Nat) (iw : Bool) (M : Nat → Int32) (s : SV) (w : Nat) (hw : w < 48) (hM : RM M s) : CM l yX9_still wsX9_still ({ frames := 2, cells := 0, slots := 0, locals := 44 } : Room) D z [.ref u0, .int (nI w), .int (nI 4)] [(u0, .inr (9, [.ref u1, .ref u2, .ref u3, .ref u4, .ref u5, .ref u6, .int (nI kn), .ref u7, .int (bB ik), .ref u8, .int (nI ty), .ref u9, .int (nI ta), .int (bB iw), .ref u10, .ref u11])), (u4, .inl (tyI D, 6912, .inl SWT)), (u5, .inl (tyI D, 208, .inl M))] (fun r_ w_ => r_ = some (.int (nI (cntB (fun p => stB s w p) 144))) ∧ w_ = [(u0, .inr (9, [.ref u1, .ref u2, .ref u3, .ref u4, .ref u5, .ref u6, .int (nI kn), .ref u7, .int (bB ik), .ref u8, .int (nI ty), .ref u9, .int (nI ta), .int (bB iw), .ref u10, .ref u11])), (u4, .inl (tyI D, 6912, .inl SWT)), (u5, .inl (tyI D, 208, .inl M))]) 0 0 := by
  refine CM_int (own := RX9) (cc := cX9_still) (maxL := 5) (L0 := [(0, .ref u0), (1, .int (nI w)), (2, .int (nI 4))]) (by decide) rfl rfl (Nat.le_of_ble_eq_true rfl) rfl (fun X O E => ?_)
  refine g_iconst (x := (nI 0)) O dX9_still_0 (by decide +kernel) ?_
  refine g_istore_n (L' := [(0, .ref u0), (1, .int (nI w)), (2, .int (nI 4)), (3, .int (nI 0))]) O dX9_still_1 rfl (by decide) [1, 2, 3, 0] rfl ?_
  refine g_iconst (x := (nI 0)) O dX9_still_2 (by decide +kernel) ?_
  refine g_istore (L' := [(0, .ref u0), (1, .int (nI w)), (2, .int (nI 4)), (3, .int (nI 0)), (4, .int (nI 0))]) O dX9_still_3 (by decide) [1, 2, 3, 4, 0] rfl ?_
  have J5 : ∀ (n_ : Nat), ∀ (i_ : Nat) (hi_ : i_ ≤ 144), 144 - i_ < n_ → G X 0 0 5 [(0, .ref u0), (1, .int (nI w)), (2, .int (nI 4)), (3, .int (nI (cntB (fun p => stB s w p) i_))), (4, .int (nI i_))] [] [(u0, .inr (9, [.ref u1, .ref u2, .ref u3, .ref u4, .ref u5, .ref u6, .int (nI kn), .ref u7, .int (bB ik), .ref u8, .int (nI ty), .ref u9, .int (nI ta), .int (bB iw), .ref u10, .ref u11])), (u4, .inl (tyI D, 6912, .inl SWT)), (u5, .inl (tyI D, 208, .inl M))] := by
    intro n_
    induction n_ with
    | zero => intro i_ hi_ hm_; exact absurd hm_ (Nat.not_lt_zero _)
    | succ n_ ih_ =>
      intro i_ hi_ hm_
      refine g_iload O dX9_still_5 4 rfl ?_
      refine g_sipush (x := (nI 144)) O dX9_still_7 (by decide +kernel) ?_
      refine g_icmp_geN (tgt := 54) O (by omega) (by omega) dX9_still_10 (by decide) (fun c_1 => ?_) (fun c_1 => ?_)
      ·
        obtain rfl : i_ = 144 := by omega
        refine g_iload_n O dX9_still_54 3 rfl rfl ?_
        exact E 55 _ (nI (cntB (fun p => stB s w p) 144)) _ dX9_still_55 ⟨rfl, rfl⟩
      ·
        refine g_iload_n O dX9_still_13 3 rfl rfl ?_
        refine g_aload_n O dX9_still_14 0 rfl rfl ?_
        refine g_iload_n O dX9_still_15 1 rfl rfl ?_
        refine g_iload O dX9_still_16 4 rfl ?_
        refine g_callV (As := [.int (nI w), .int (nI i_)]) (wr := []) O (kX9_isStill l D z u0 u1 u2 u3 u4 u5 u6 u7 u8 u9 u10 u11 kn ik ty ta iw M s w i_ (by first | assumption | omega) (by first | assumption | omega) (by first | assumption | omega)) gX9_still_X9_isStill rfl rfl rfl 2 (by decide +kernel) (by decide) (by decide) (q0 := 0) rfl rfl rfl [0, 1, 2] [] rfl (by decide) rfl (by decide) (by decide) rfl rfl (Nat.le_of_ble_eq_true rfl) dX9_still_18 (fun r_2 w_3 hp => ?_)
        obtain ⟨rfl, rfl⟩ := hp
        refine g_eq (st' := [.int (bB (stB s w i_)), .int (nI (cntB (fun p => stB s w p) i_))]) (ws' := [(u0, .inr (9, [.ref u1, .ref u2, .ref u3, .ref u4, .ref u5, .ref u6, .int (nI kn), .ref u7, .int (bB ik), .ref u8, .int (nI ty), .ref u9, .int (nI ta), .int (bB iw), .ref u10, .ref u11])), (u4, .inl (tyI D, 6912, .inl SWT)), (u5, .inl (tyI D, 208, .inl M))]) rfl rfl rfl ?_
        refine g_if_neB (tgt := 28) O dX9_still_21 (by decide) (fun c_4 => ?_) (fun c_4 => ?_)
        ·
          have hq := cntB_t (p := fun p => stB s w p) c_4
          refine g_iload_n O dX9_still_28 2 rfl rfl ?_
          refine g_iconst (x := (nI 4)) O dX9_still_29 (by decide +kernel) ?_
          refine g_icmp_neN (tgt := 37) O (by omega) (by omega) dX9_still_30 (by decide) (fun c_5 => absurd c_5 (by decide)) (fun c_5 => ?_)
          refine g_iconst (x := (nI 1)) O dX9_still_33 (by decide +kernel) ?_
          refine g_goto (tgt := 46) O dX9_still_34 (by decide) ?_
          refine g_iaddN O dX9_still_46 ?_
          refine g_eq (st' := [.int (nI (cntB (fun p => stB s w p) (i_ + 1)))]) (by rw [hq] <;> rfl) rfl rfl ?_
          refine g_istore_n (L' := [(0, .ref u0), (1, .int (nI w)), (2, .int (nI 4)), (3, .int (nI (cntB (fun p => stB s w p) (i_ + 1)))), (4, .int (nI i_))]) O dX9_still_47 rfl (by decide) [1, 2, 3, 0, 4] rfl ?_
          refine g_iincN (L' := [(0, .ref u0), (1, .int (nI w)), (2, .int (nI 4)), (3, .int (nI (cntB (fun p => stB s w p) (i_ + 1)))), (4, .int (nI (i_ + 1)))]) O dX9_still_48 4 rfl (by decide) [1, 2, 3, 4, 0] rfl ?_
          refine g_goto (tgt := 5) O dX9_still_51 (by decide) ?_
          exact ih_ (i_ + 1) (by first | assumption | omega | rfl) (by omega)
        ·
          have hq := cntB_f (p := fun p => stB s w p) c_4
          refine g_iconst (x := (nI 0)) O dX9_still_24 (by decide +kernel) ?_
          refine g_goto (tgt := 46) O dX9_still_25 (by decide) ?_
          refine g_iaddN O dX9_still_46 ?_
          refine g_eq (st' := [.int (nI (cntB (fun p => stB s w p) (i_ + 1)))]) (by rw [hq] <;> rfl) rfl rfl ?_
          refine g_istore_n (L' := [(0, .ref u0), (1, .int (nI w)), (2, .int (nI 4)), (3, .int (nI (cntB (fun p => stB s w p) (i_ + 1)))), (4, .int (nI i_))]) O dX9_still_47 rfl (by decide) [1, 2, 3, 0, 4] rfl ?_
          refine g_iincN (L' := [(0, .ref u0), (1, .int (nI w)), (2, .int (nI 4)), (3, .int (nI (cntB (fun p => stB s w p) (i_ + 1)))), (4, .int (nI (i_ + 1)))]) O dX9_still_48 4 rfl (by decide) [1, 2, 3, 4, 0] rfl ?_
          refine g_goto (tgt := 5) O dX9_still_51 (by decide) ?_
          exact ih_ (i_ + 1) (by first | assumption | omega | rfl) (by omega)
  exact J5 _ 0 (Nat.zero_le _) (Nat.lt_succ_self _)

theorem hiX9_still_X9 : ∀ w ∈ wsX90, w ∈ wsX9_still := by intro w h; simp only [wsX9_still, List.mem_append, List.mem_cons, h, or_true, true_or]
set_option maxHeartbeats 2000000 in
set_option maxRecDepth 100000 in
/-- still places, or their grains -/
theorem kX9_still6 (l : Launch) (D : va_G) (z : Nat × Nat × Nat) (u0 : Nat) (u1 : Nat) (u2 : Nat) (u3 : Nat) (u4 : Nat) (u5 : Nat) (u6 : Nat) (u7 : Nat) (u8 : Nat) (u9 : Nat) (u10 : Nat) (u11 : Nat) (kn : Nat) (ik : Bool) (ty : Nat) (ta : Nat) (iw : Bool) (M : Nat → Int32) (s : SV) (w : Nat) (hw : w < 48) (hM : RM M s) : CM l yX9_still wsX9_still ({ frames := 2, cells := 0, slots := 0, locals := 44 } : Room) D z [.ref u0, .int (nI w), .int (nI 6)] [(u0, .inr (9, [.ref u1, .ref u2, .ref u3, .ref u4, .ref u5, .ref u6, .int (nI kn), .ref u7, .int (bB ik), .ref u8, .int (nI ty), .ref u9, .int (nI ta), .int (bB iw), .ref u10, .ref u11])), (u4, .inl (tyI D, 6912, .inl SWT)), (u5, .inl (tyI D, 208, .inl M))] (fun r_ w_ => r_ = some (.int (nI (gsN s w 144))) ∧ w_ = [(u0, .inr (9, [.ref u1, .ref u2, .ref u3, .ref u4, .ref u5, .ref u6, .int (nI kn), .ref u7, .int (bB ik), .ref u8, .int (nI ty), .ref u9, .int (nI ta), .int (bB iw), .ref u10, .ref u11])), (u4, .inl (tyI D, 6912, .inl SWT)), (u5, .inl (tyI D, 208, .inl M))]) 0 0 := by
  refine CM_int (own := RX9) (cc := cX9_still) (maxL := 5) (L0 := [(0, .ref u0), (1, .int (nI w)), (2, .int (nI 6))]) (by decide) rfl rfl (Nat.le_of_ble_eq_true rfl) rfl (fun X O E => ?_)
  refine g_iconst (x := (nI 0)) O dX9_still_0 (by decide +kernel) ?_
  refine g_istore_n (L' := [(0, .ref u0), (1, .int (nI w)), (2, .int (nI 6)), (3, .int (nI 0))]) O dX9_still_1 rfl (by decide) [1, 2, 3, 0] rfl ?_
  refine g_iconst (x := (nI 0)) O dX9_still_2 (by decide +kernel) ?_
  refine g_istore (L' := [(0, .ref u0), (1, .int (nI w)), (2, .int (nI 6)), (3, .int (nI 0)), (4, .int (nI 0))]) O dX9_still_3 (by decide) [1, 2, 3, 4, 0] rfl ?_
  have J5 : ∀ (n_ : Nat), ∀ (i_ : Nat) (hi_ : i_ ≤ 144), 144 - i_ < n_ → G X 0 0 5 [(0, .ref u0), (1, .int (nI w)), (2, .int (nI 6)), (3, .int (nI (gsN s w i_))), (4, .int (nI i_))] [] [(u0, .inr (9, [.ref u1, .ref u2, .ref u3, .ref u4, .ref u5, .ref u6, .int (nI kn), .ref u7, .int (bB ik), .ref u8, .int (nI ty), .ref u9, .int (nI ta), .int (bB iw), .ref u10, .ref u11])), (u4, .inl (tyI D, 6912, .inl SWT)), (u5, .inl (tyI D, 208, .inl M))] := by
    intro n_
    induction n_ with
    | zero => intro i_ hi_ hm_; exact absurd hm_ (Nat.not_lt_zero _)
    | succ n_ ih_ =>
      intro i_ hi_ hm_
      refine g_iload O dX9_still_5 4 rfl ?_
      refine g_sipush (x := (nI 144)) O dX9_still_7 (by decide +kernel) ?_
      refine g_icmp_geN (tgt := 54) O (by omega) (by omega) dX9_still_10 (by decide) (fun c_1 => ?_) (fun c_1 => ?_)
      ·
        obtain rfl : i_ = 144 := by omega
        refine g_iload_n O dX9_still_54 3 rfl rfl ?_
        exact E 55 _ (nI (gsN s w 144)) _ dX9_still_55 ⟨rfl, rfl⟩
      ·
        refine g_iload_n O dX9_still_13 3 rfl rfl ?_
        refine g_aload_n O dX9_still_14 0 rfl rfl ?_
        refine g_iload_n O dX9_still_15 1 rfl rfl ?_
        refine g_iload O dX9_still_16 4 rfl ?_
        refine g_callV (As := [.int (nI w), .int (nI i_)]) (wr := []) O (kX9_isStill l D z u0 u1 u2 u3 u4 u5 u6 u7 u8 u9 u10 u11 kn ik ty ta iw M s w i_ (by first | assumption | omega) (by first | assumption | omega) (by first | assumption | omega)) gX9_still_X9_isStill rfl rfl rfl 2 (by decide +kernel) (by decide) (by decide) (q0 := 0) rfl rfl rfl [0, 1, 2] [] rfl (by decide) rfl (by decide) (by decide) rfl rfl (Nat.le_of_ble_eq_true rfl) dX9_still_18 (fun r_2 w_3 hp => ?_)
        obtain ⟨rfl, rfl⟩ := hp
        refine g_eq (st' := [.int (bB (stB s w i_)), .int (nI (gsN s w i_))]) (ws' := [(u0, .inr (9, [.ref u1, .ref u2, .ref u3, .ref u4, .ref u5, .ref u6, .int (nI kn), .ref u7, .int (bB ik), .ref u8, .int (nI ty), .ref u9, .int (nI ta), .int (bB iw), .ref u10, .ref u11])), (u4, .inl (tyI D, 6912, .inl SWT)), (u5, .inl (tyI D, 208, .inl M))]) rfl rfl rfl ?_
        refine g_if_neB (tgt := 28) O dX9_still_21 (by decide) (fun c_4 => ?_) (fun c_4 => ?_)
        ·
          have hq : gsN s w (i_ + 1) = gsN s w i_ + sv_g s i_ := by simp only [gsN]; rw [if_pos c_4]
          refine g_iload_n O dX9_still_28 2 rfl rfl ?_
          refine g_iconst (x := (nI 4)) O dX9_still_29 (by decide +kernel) ?_
          refine g_icmp_neN (tgt := 37) O (by omega) (by omega) dX9_still_30 (by decide) (fun c_5 => ?_) (fun c_5 => absurd c_5 (by decide))
          refine g_aload_n O dX9_still_37 0 rfl rfl ?_
          refine g_get O hiX9_still_X9 0 rfl rfl 4 (by decide) (by decide +kernel) rfl dX9_still_38 ?_
          refine g_iconst (x := (nI 0)) O dX9_still_41 (by decide +kernel) ?_
          refine g_iload O dX9_still_42 4 rfl ?_
          refine g_iaddN O dX9_still_44 ?_
          refine g_ialdN O 2 rfl (by omega) (by omega) dX9_still_45 ?_
          refine g_eq (st' := [.int (nI (sv_g s i_)), .int (nI (gsN s w i_))]) (by rw [RM_g0 hM (show i_ < 144 by omega)]) rfl rfl ?_
          refine g_iaddN O dX9_still_46 ?_
          refine g_eq (st' := [.int (nI (gsN s w (i_ + 1)))]) (by rw [hq] <;> rfl) rfl rfl ?_
          refine g_istore_n (L' := [(0, .ref u0), (1, .int (nI w)), (2, .int (nI 6)), (3, .int (nI (gsN s w (i_ + 1)))), (4, .int (nI i_))]) O dX9_still_47 rfl (by decide) [1, 2, 3, 0, 4] rfl ?_
          refine g_iincN (L' := [(0, .ref u0), (1, .int (nI w)), (2, .int (nI 6)), (3, .int (nI (gsN s w (i_ + 1)))), (4, .int (nI (i_ + 1)))]) O dX9_still_48 4 rfl (by decide) [1, 2, 3, 4, 0] rfl ?_
          refine g_goto (tgt := 5) O dX9_still_51 (by decide) ?_
          exact ih_ (i_ + 1) (by first | assumption | omega | rfl) (by omega)
        ·
          have hq : gsN s w (i_ + 1) = gsN s w i_ := by simp only [gsN]; rw [if_neg (by rw [c_4]; decide)]
          refine g_iconst (x := (nI 0)) O dX9_still_24 (by decide +kernel) ?_
          refine g_goto (tgt := 46) O dX9_still_25 (by decide) ?_
          refine g_iaddN O dX9_still_46 ?_
          refine g_eq (st' := [.int (nI (gsN s w (i_ + 1)))]) (by rw [hq] <;> rfl) rfl rfl ?_
          refine g_istore_n (L' := [(0, .ref u0), (1, .int (nI w)), (2, .int (nI 6)), (3, .int (nI (gsN s w (i_ + 1)))), (4, .int (nI i_))]) O dX9_still_47 rfl (by decide) [1, 2, 3, 0, 4] rfl ?_
          refine g_iincN (L' := [(0, .ref u0), (1, .int (nI w)), (2, .int (nI 6)), (3, .int (nI (gsN s w (i_ + 1)))), (4, .int (nI (i_ + 1)))]) O dX9_still_48 4 rfl (by decide) [1, 2, 3, 4, 0] rfl ?_
          refine g_goto (tgt := 5) O dX9_still_51 (by decide) ?_
          exact ih_ (i_ + 1) (by first | assumption | omega | rfl) (by omega)
  exact J5 _ 0 (Nat.zero_le _) (Nat.lt_succ_self _)

theorem hiX9_noteOf_X9 : ∀ w ∈ wsX90, w ∈ wsX9_noteOf := by intro w h; simp only [wsX9_noteOf, List.mem_append, List.mem_cons, h, or_true, true_or]
set_option maxHeartbeats 2000000 in
set_option maxRecDepth 100000 in
/-- the note of a way -/
theorem kX9_noteOf (l : Launch) (D : va_G) (z : Nat × Nat × Nat) (u0 : Nat) (u1 : Nat) (u2 : Nat) (u3 : Nat) (u4 : Nat) (u5 : Nat) (u6 : Nat) (u7 : Nat) (u8 : Nat) (u9 : Nat) (u10 : Nat) (u11 : Nat) (kn : Nat) (ik : Bool) (ty : Nat) (ta : Nat) (iw : Bool) (w : Nat) (hw : w < 48) : CM l yX9_noteOf wsX9_noteOf ({ frames := 0, cells := 0, slots := 0, locals := 0 } : Room) D z [.ref u0, .int (nI w)] [(u0, .inr (9, [.ref u1, .ref u2, .ref u3, .ref u4, .ref u5, .ref u6, .int (nI kn), .ref u7, .int (bB ik), .ref u8, .int (nI ty), .ref u9, .int (nI ta), .int (bB iw), .ref u10, .ref u11])), (u1, .inl (tyI D, 48, .inl (nf tM))), (u2, .inl (tyI D, 48, .inl (nf tN))), (u3, .inl (tyI D, 48, .inl (nf tS)))] (fun r_ w_ => r_ = some (.int (nI (10 * (tM w * tM w + tN w * tN w) + tS w))) ∧ w_ = [(u0, .inr (9, [.ref u1, .ref u2, .ref u3, .ref u4, .ref u5, .ref u6, .int (nI kn), .ref u7, .int (bB ik), .ref u8, .int (nI ty), .ref u9, .int (nI ta), .int (bB iw), .ref u10, .ref u11])), (u1, .inl (tyI D, 48, .inl (nf tM))), (u2, .inl (tyI D, 48, .inl (nf tN))), (u3, .inl (tyI D, 48, .inl (nf tS)))]) 0 0 := by
  refine CM_int (own := RX9) (cc := cX9_noteOf) (maxL := 2) (L0 := [(0, .ref u0), (1, .int (nI w))]) (by decide) rfl rfl (Nat.le_of_ble_eq_true rfl) rfl (fun X O E => ?_)
  refine g_bipush (x := (nI 10)) O dX9_noteOf_0 (by decide +kernel) ?_
  refine g_aload_n O dX9_noteOf_2 0 rfl rfl ?_
  refine g_get O hiX9_noteOf_X9 0 rfl rfl 0 (by decide) (by decide +kernel) rfl dX9_noteOf_3 ?_
  refine g_iload_n O dX9_noteOf_6 1 rfl rfl ?_
  refine g_ialdN O 1 rfl (by omega) (by omega) dX9_noteOf_7 ?_
  refine g_aload_n O dX9_noteOf_8 0 rfl rfl ?_
  refine g_get O hiX9_noteOf_X9 0 rfl rfl 0 (by decide) (by decide +kernel) rfl dX9_noteOf_9 ?_
  refine g_iload_n O dX9_noteOf_12 1 rfl rfl ?_
  refine g_ialdN O 1 rfl (by omega) (by omega) dX9_noteOf_13 ?_
  refine g_imulN O dX9_noteOf_14 ?_
  refine g_aload_n O dX9_noteOf_15 0 rfl rfl ?_
  refine g_get O hiX9_noteOf_X9 0 rfl rfl 1 (by decide) (by decide +kernel) rfl dX9_noteOf_16 ?_
  refine g_iload_n O dX9_noteOf_19 1 rfl rfl ?_
  refine g_ialdN O 2 rfl (by omega) (by omega) dX9_noteOf_20 ?_
  refine g_aload_n O dX9_noteOf_21 0 rfl rfl ?_
  refine g_get O hiX9_noteOf_X9 0 rfl rfl 1 (by decide) (by decide +kernel) rfl dX9_noteOf_22 ?_
  refine g_iload_n O dX9_noteOf_25 1 rfl rfl ?_
  refine g_ialdN O 2 rfl (by omega) (by omega) dX9_noteOf_26 ?_
  refine g_imulN O dX9_noteOf_27 ?_
  refine g_iaddN O dX9_noteOf_28 ?_
  refine g_imulN O dX9_noteOf_29 ?_
  refine g_aload_n O dX9_noteOf_30 0 rfl rfl ?_
  refine g_get O hiX9_noteOf_X9 0 rfl rfl 2 (by decide) (by decide +kernel) rfl dX9_noteOf_31 ?_
  refine g_iload_n O dX9_noteOf_34 1 rfl rfl ?_
  refine g_ialdN O 3 rfl (by omega) (by omega) dX9_noteOf_35 ?_
  refine g_iaddN O dX9_noteOf_36 ?_
  exact E 37 _ (nI ((10 * (((tM w) * (tM w)) + ((tN w) * (tN w)))) + (tS w))) _ dX9_noteOf_37 ⟨rfl, rfl⟩
