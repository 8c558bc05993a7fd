set_option maxHeartbeats 2000000 in
set_option maxRecDepth 100000 in
theorem kX9_play_b1 (l : Launch) (D : va_G) (z : Nat × Nat × Nat) (u0 : Nat) (u1 : Nat) (u2 : Nat) (u3 : Nat) (u4 : Nat) (u5 : Nat) (u6 : Nat) (u7 : Nat) (u8 : Nat) (u9 : Nat) (u10 : Nat) (u11 : Nat) (kn : Nat) (ik : Bool) (ty : Nat) (ta : Nat) (iw : Bool) (k : Int32) (hb : k < nI 1 ∨ nI 16 < k) : CM l yX9_play wsX9_play ({ frames := 4, cells := 0, slots := 0, locals := 96 } : Room) D z [.ref u0, .int k] [(u0, .inr (9, [.ref u1, .ref u2, .ref u3, .ref u4, .ref u5, .ref u6, .int (nI kn), .ref u7, .int (bB ik), .ref u8, .int (nI ty), .ref u9, .int (nI ta), .int (bB iw), .ref u10, .ref u11]))] (fun r_ w_ => r_ = some (.int (-2)) ∧ w_ = [(u0, .inr (9, [.ref u1, .ref u2, .ref u3, .ref u4, .ref u5, .ref u6, .int (nI kn), .ref u7, .int (bB ik), .ref u8, .int (nI ty), .ref u9, .int (nI ta), .int (bB iw), .ref u10, .ref u11]))]) 0 0 := by
  refine CM_int (own := RX9) (cc := cX9_play) (maxL := 7) (L0 := [(0, .ref u0), (1, .int k)]) (by decide) rfl rfl (Nat.le_of_ble_eq_true rfl) rfl (fun X O E => ?_)
  refine g_iload_n O dX9_play_0 1 rfl rfl ?_
  refine g_iconst (x := (nI 1)) O dX9_play_1 (by decide +kernel) ?_
  refine g_bipush (x := (nI 16)) O dX9_play_2 (by decide +kernel) ?_
  refine g_callS (As := [.int k, .int (nI 1), .int (nI 16)]) (wr := [(u0, .inr (9, [.ref u1, .ref u2, .ref u3, .ref u4, .ref u5, .ref u6, .int (nI kn), .ref u7, .int (bB ik), .ref u8, .int (nI ty), .ref u9, .int (nI ta), .int (bB iw), .ref u10, .ref u11]))]) O (kX9_in l D z k (nI 1) (nI 16) ) gX9_play_X9_in rfl rfl rfl 3 (by decide +kernel) (by decide) (by decide) [] [0] rfl (by decide) rfl (by decide) (by decide) rfl rfl (Nat.le_of_ble_eq_true rfl) dX9_play_4 (fun r_1 w_2 hp => ?_)
  obtain ⟨rfl, rfl⟩ := hp
  refine g_eq (st' := [.int (bB (inI k (nI 1) (nI 16)))]) (ws' := [(u0, .inr (9, [.ref u1, .ref u2, .ref u3, .ref u4, .ref u5, .ref u6, .int (nI kn), .ref u7, .int (bB ik), .ref u8, .int (nI ty), .ref u9, .int (nI ta), .int (bB iw), .ref u10, .ref u11]))]) rfl rfl rfl ?_
  refine g_if_neB (tgt := 13) O dX9_play_7 (by decide) (fun c_3 => absurd c_3 (by rw [inI_f hb]; decide)) (fun c_3 => ?_)
  refine g_bipush (x := (-2)) O dX9_play_10 (by decide +kernel) ?_
  exact E 12 _ (-2) _ dX9_play_12 ⟨rfl, rfl⟩

theorem hiX9_play_X9 : ∀ w ∈ wsX90, w ∈ wsX9_play := by intro w h; simp only [wsX9_play, List.mem_append, List.mem_cons, h, or_true, true_or]
set_option maxHeartbeats 2000000 in
set_option maxRecDepth 100000 in
theorem kX9_play_b2 (l : Launch) (D : va_G) (z : Nat × Nat × Nat) (u0 : Nat) (u1 : Nat) (u2 : Nat) (u3 : Nat) (u4 : Nat) (u5 : Nat) (u6 : Nat) (u7 : Nat) (u8 : Nat) (u9 : Nat) (u10 : Nat) (u11 : Nat) (kn : Nat) (ik : Bool) (ty : Nat) (ta : Nat) (iw : Bool) (M : Nat → Int32) (s : SV) (k : Nat) (hk1 : 1 ≤ k) (hk2 : k ≤ 16) (hM : RM M s) (hb : sv_ps s = 0) : CM l yX9_play wsX9_play ({ frames := 4, cells := 0, slots := 0, locals := 96 } : Room) D z [.ref u0, .int (nI k)] [(u0, .inr (9, [.ref u1, .ref u2, .ref u3, .ref u4, .ref u5, .ref u6, .int (nI kn), .ref u7, .int (bB ik), .ref u8, .int (nI ty), .ref u9, .int (nI ta), .int (bB iw), .ref u10, .ref u11])), (u5, .inl (tyI D, 208, .inl M))] (fun r_ w_ => r_ = some (.int (-5)) ∧ w_ = [(u0, .inr (9, [.ref u1, .ref u2, .ref u3, .ref u4, .ref u5, .ref u6, .int (nI kn), .ref u7, .int (bB ik), .ref u8, .int (nI ty), .ref u9, .int (nI ta), .int (bB iw), .ref u10, .ref u11])), (u5, .inl (tyI D, 208, .inl M))]) 0 0 := by
  refine CM_int (own := RX9) (cc := cX9_play) (maxL := 7) (L0 := [(0, .ref u0), (1, .int (nI k))]) (by decide) rfl rfl (Nat.le_of_ble_eq_true rfl) rfl (fun X O E => ?_)
  refine g_iload_n O dX9_play_0 1 rfl rfl ?_
  refine g_iconst (x := (nI 1)) O dX9_play_1 (by decide +kernel) ?_
  refine g_bipush (x := (nI 16)) O dX9_play_2 (by decide +kernel) ?_
  refine g_callS (As := [.int (nI k), .int (nI 1), .int (nI 16)]) (wr := [(u0, .inr (9, [.ref u1, .ref u2, .ref u3, .ref u4, .ref u5, .ref u6, .int (nI kn), .ref u7, .int (bB ik), .ref u8, .int (nI ty), .ref u9, .int (nI ta), .int (bB iw), .ref u10, .ref u11])), (u5, .inl (tyI D, 208, .inl M))]) O (kX9_in l D z (nI k) (nI 1) (nI 16) ) gX9_play_X9_in rfl rfl rfl 3 (by decide +kernel) (by decide) (by decide) [] [0, 1] rfl (by decide) rfl (by decide) (by decide) rfl rfl (Nat.le_of_ble_eq_true rfl) dX9_play_4 (fun r_1 w_2 hp => ?_)
  obtain ⟨rfl, rfl⟩ := hp
  refine g_eq (st' := [.int (bB (inI (nI k) (nI 1) (nI 16)))]) (ws' := [(u0, .inr (9, [.ref u1, .ref u2, .ref u3, .ref u4, .ref u5, .ref u6, .int (nI kn), .ref u7, .int (bB ik), .ref u8, .int (nI ty), .ref u9, .int (nI ta), .int (bB iw), .ref u10, .ref u11])), (u5, .inl (tyI D, 208, .inl M))]) rfl rfl rfl ?_
  refine g_if_neB (tgt := 13) O dX9_play_7 (by decide) (fun c_3 => ?_) (fun c_3 => absurd c_3 (by rw [inI_t (nI_le (a := 1) (by omega) (by omega)) (nI_le (b := 16) (by omega) (by omega))]; decide))
  refine g_aload_n O dX9_play_13 0 rfl rfl ?_
  refine g_get O hiX9_play_X9 0 rfl rfl 4 (by decide) (by decide +kernel) rfl dX9_play_14 ?_
  refine g_sipush (x := (nI 159)) O dX9_play_17 (by decide +kernel) ?_
  refine g_ialdN O 1 rfl (by omega) (by omega) dX9_play_20 ?_
  refine g_eq (st' := [.int (nI (sv_ps s))]) (by rw [RM_ps hM]) rfl rfl ?_
  refine g_if_neN (tgt := 27) O (by omega) dX9_play_21 (by decide) (fun c_4 => (by exfalso; omega)) (fun c_4 => ?_)
  refine g_bipush (x := (-5)) O dX9_play_24 (by decide +kernel) ?_
  exact E 26 _ (-5) _ dX9_play_26 ⟨rfl, rfl⟩

set_option maxHeartbeats 2000000 in
set_option maxRecDepth 100000 in
/-- play -/
theorem kX9_play_ok (l : Launch) (D : va_G) (z : Nat × Nat × Nat) (u0 : Nat) (u1 : Nat) (u2 : Nat) (u3 : Nat) (u4 : Nat) (u5 : Nat) (u6 : Nat) (u7 : Nat) (u8 : Nat) (u9 : Nat) (u10 : Nat) (u11 : Nat) (kn : Nat) (ik : Bool) (ty : Nat) (ta : Nat) (iw : Bool) (M : Nat → Int32) (Bf : Nat → Int32) (Mo : Nat → Int32) (s : SV) (k : Nat) (Bd : Nat) (hM : RM M s) (hkn : kn ≤ 4) (hk1 : 1 ≤ k) (hk2 : k ≤ 16) (hok : OKS Bd s) (hB : Bd < 1073741824) (h0_ : 0 < sv_ps s) : CM l yX9_play wsX9_play ({ frames := 4, cells := 0, slots := 0, locals := 96 } : Room) D z [.ref u0, .int (nI k)] [(u0, .inr (9, [.ref u1, .ref u2, .ref u3, .ref u4, .ref u5, .ref u6, .int (nI kn), .ref u7, .int (bB ik), .ref u8, .int (nI ty), .ref u9, .int (nI ta), .int (bB iw), .ref u10, .ref u11])), (u4, .inl (tyI D, 6912, .inl SWT)), (u5, .inl (tyI D, 208, .inl M)), (u6, .inl (tyI D, 832, .inl Bf)), (u9, .inl (tyI D, 144, .inl Mo))] (fun r_ w_ => ∃ (M9 : Nat → Int32), ∃ (Mo9 : Nat → Int32), (RM M9 (mpS s (min k (sv_ps s)))) ∧ r_ = some (.int (nI (plL s (min k (sv_ps s))))) ∧ w_ = [(u0, .inr (9, [.ref u1, .ref u2, .ref u3, .ref u4, .ref u5, .ref u6, .int (nI (rhN kn)), .ref u7, .int (bB ik), .ref u8, .int (nI ty), .ref u9, .int (nI ta), .int (bB iw), .ref u10, .ref u11])), (u4, .inl (tyI D, 6912, .inl SWT)), (u5, .inl (tyI D, 208, .inl M9)), (u6, .inl (tyI D, 832, .inl (kwF Bf M kn))), (u9, .inl (tyI D, 144, .inl Mo9))]) 0 0 := by
  refine CM_int (own := RX9) (cc := cX9_play) (maxL := 7) (L0 := [(0, .ref u0), (1, .int (nI k))]) (by decide) rfl rfl (Nat.le_of_ble_eq_true rfl) rfl (fun X O E => ?_)
  have hok0 := hok
  obtain ⟨hnc, hcc, hps0, hpc, hla, hsm⟩ := hok
  refine g_iload_n O dX9_play_0 1 rfl rfl ?_
  refine g_iconst (x := (nI 1)) O dX9_play_1 (by decide +kernel) ?_
  refine g_bipush (x := (nI 16)) O dX9_play_2 (by decide +kernel) ?_
  refine g_callS (As := [.int (nI k), .int (nI 1), .int (nI 16)]) (wr := [(u0, .inr (9, [.ref u1, .ref u2, .ref u3, .ref u4, .ref u5, .ref u6, .int (nI kn), .ref u7, .int (bB ik), .ref u8, .int (nI ty), .ref u9, .int (nI ta), .int (bB iw), .ref u10, .ref u11])), (u4, .inl (tyI D, 6912, .inl SWT)), (u5, .inl (tyI D, 208, .inl M)), (u6, .inl (tyI D, 832, .inl Bf)), (u9, .inl (tyI D, 144, .inl Mo))]) O (kX9_in l D z (nI k) (nI 1) (nI 16) ) gX9_play_X9_in rfl rfl rfl 3 (by decide +kernel) (by decide) (by decide) [] [0, 1, 2, 3, 4] rfl (by decide) rfl (by decide) (by decide) rfl rfl (Nat.le_of_ble_eq_true rfl) dX9_play_4 (fun r_1 w_2 hp => ?_)
  obtain ⟨rfl, rfl⟩ := hp
  refine g_eq (st' := [.int (bB (inI (nI k) (nI 1) (nI 16)))]) (ws' := [(u0, .inr (9, [.ref u1, .ref u2, .ref u3, .ref u4, .ref u5, .ref u6, .int (nI kn), .ref u7, .int (bB ik), .ref u8, .int (nI ty), .ref u9, .int (nI ta), .int (bB iw), .ref u10, .ref u11])), (u4, .inl (tyI D, 6912, .inl SWT)), (u5, .inl (tyI D, 208, .inl M)), (u6, .inl (tyI D, 832, .inl Bf)), (u9, .inl (tyI D, 144, .inl Mo))]) rfl rfl rfl ?_
  refine g_if_neB (tgt := 13) O dX9_play_7 (by decide) (fun c_3 => ?_) (fun c_3 => absurd c_3 (by rw [inI_t (nI_le (a := 1) (by omega) (by omega)) (nI_le (b := 16) (by omega) (by omega))]; decide))
  refine g_aload_n O dX9_play_13 0 rfl rfl ?_
  refine g_get O hiX9_play_X9 0 rfl rfl 4 (by decide) (by decide +kernel) rfl dX9_play_14 ?_
  refine g_sipush (x := (nI 159)) O dX9_play_17 (by decide +kernel) ?_
  refine g_ialdN O 2 rfl (by omega) (by omega) dX9_play_20 ?_
  refine g_eq (st' := [.int (nI (sv_ps s))]) (by rw [RM_ps hM]) rfl rfl ?_
  refine g_if_neN (tgt := 27) O (by omega) dX9_play_21 (by decide) (fun c_4 => ?_) (fun c_4 => (by exfalso; omega))
  refine g_aload_n O dX9_play_27 0 rfl rfl ?_
  refine g_callV (As := []) (wr := [(u4, .inl (tyI D, 6912, .inl SWT)), (u9, .inl (tyI D, 144, .inl Mo))]) O (kX9_know l D z u0 u1 u2 u3 u4 u5 u6 u7 u8 u9 u10 u11 kn ik ty ta iw M Bf (by first | assumption | omega)) gX9_play_X9_know rfl rfl rfl 0 (by decide +kernel) (by decide) (by decide) (q0 := 0) rfl rfl rfl [0, 2, 3] [1, 4] rfl (by decide) rfl (by decide) (by decide) rfl rfl (Nat.le_of_ble_eq_true rfl) dX9_play_28 (fun r_5 w_6 hp => ?_)
  obtain ⟨rfl, rfl⟩ := hp
  refine g_eq (st' := []) (ws' := [(u4, .inl (tyI D, 6912, .inl SWT)), (u9, .inl (tyI D, 144, .inl Mo)), (u0, .inr (9, [.ref u1, .ref u2, .ref u3, .ref u4, .ref u5, .ref u6, .int (nI (rhN kn)), .ref u7, .int (bB ik), .ref u8, .int (nI ty), .ref u9, .int (nI ta), .int (bB iw), .ref u10, .ref u11])), (u5, .inl (tyI D, 208, .inl M)), (u6, .inl (tyI D, 832, .inl (kwF Bf M kn)))]) rfl rfl rfl ?_
  refine g_iconst (x := (nI 0)) O dX9_play_31 (by decide +kernel) ?_
  refine g_istore_n (L' := [(0, .ref u0), (1, .int (nI k)), (2, .int (nI 0))]) O dX9_play_32 rfl (by decide) [1, 2, 0] rfl ?_
  refine g_iconst (x := (nI 0)) O dX9_play_33 (by decide +kernel) ?_
  refine g_istore_n (L' := [(0, .ref u0), (1, .int (nI k)), (2, .int (nI 0)), (3, .int (nI 0))]) O dX9_play_34 rfl (by decide) [1, 2, 3, 0] rfl ?_
  have J35 : ∀ (n_ : Nat), ∀ (i_ : Nat) (F_ : Nat → Int32) (Z_ : Nat → Int32) (hi_ : i_ ≤ (min k (sv_ps s))) (hF : RM F_ (mpS s i_)), (min k (sv_ps s)) + 1 - i_ < n_ → G X 0 0 35 [(0, .ref u0), (1, .int (nI k)), (2, .int (nI (plL s i_))), (3, .int (nI i_))] [] [(u4, .inl (tyI D, 6912, .inl SWT)), (u9, .inl (tyI D, 144, .inl Z_)), (u0, .inr (9, [.ref u1, .ref u2, .ref u3, .ref u4, .ref u5, .ref u6, .int (nI (rhN kn)), .ref u7, .int (bB ik), .ref u8, .int (nI ty), .ref u9, .int (nI ta), .int (bB iw), .ref u10, .ref u11])), (u5, .inl (tyI D, 208, .inl F_)), (u6, .inl (tyI D, 832, .inl (kwF Bf M kn)))] := by
    intro n_
    induction n_ with
    | zero => intro i_ F_ Z_ hi_ hF hm_; exact absurd hm_ (Nat.not_lt_zero _)
    | succ n_ ih_ =>
      intro i_ F_ Z_ hi_ hF hm_
      obtain ⟨k1, k2, k3, k4, k5, k6, k7, k8, k9, k10⟩ := plS_k s i_
      have hoi := OKS_plS hok0 i_
      have hll := plL_le s i_
      refine g_iload_n O dX9_play_35 3 rfl rfl ?_
      refine g_iload_n O dX9_play_36 1 rfl rfl ?_
      refine g_icmp_geN (tgt := 192) O (by omega) (by omega) dX9_play_37 (by decide) (fun c_7 => ?_) (fun c_7 => ?_)
      ·
        obtain rfl : i_ = (min k (sv_ps s)) := by omega
        refine g_iload_n O dX9_play_192 2 rfl rfl ?_
        refine g_perm (ws' := [(u0, .inr (9, [.ref u1, .ref u2, .ref u3, .ref u4, .ref u5, .ref u6, .int (nI (rhN kn)), .ref u7, .int (bB ik), .ref u8, .int (nI ty), .ref u9, .int (nI ta), .int (bB iw), .ref u10, .ref u11])), (u4, .inl (tyI D, 6912, .inl SWT)), (u5, .inl (tyI D, 208, .inl F_)), (u6, .inl (tyI D, 832, .inl (kwF Bf M kn))), (u9, .inl (tyI D, 144, .inl Z_))]) [2, 0, 3, 4, 1] rfl (by decide) ?_
        exact E 193 _ (nI (plL s (min k (sv_ps s)))) _ dX9_play_193 (⟨_, _, by assumption, rfl, rfl⟩)
      ·
        refine g_aload_n O dX9_play_40 0 rfl rfl ?_
        refine g_get O hiX9_play_X9 2 rfl rfl 4 (by decide) (by decide +kernel) rfl dX9_play_41 ?_
        refine g_sipush (x := (nI 159)) O dX9_play_44 (by decide +kernel) ?_
        refine g_ialdN O 3 rfl (by omega) (by omega) dX9_play_47 ?_
        refine g_eq (st' := [.int (nI (sv_ps s - i_))]) (by rw [RM_ps hF, show sv_ps (mpS s i_) = sv_ps s - i_ from rfl]) rfl rfl ?_
        refine g_if_leN (tgt := 192) O (by omega) dX9_play_48 (by decide) (fun c_8 => ?_) (fun c_8 => ?_)
        ·
          obtain rfl : i_ = (min k (sv_ps s)) := by omega
          refine g_iload_n O dX9_play_192 2 rfl rfl ?_
          refine g_perm (ws' := [(u0, .inr (9, [.ref u1, .ref u2, .ref u3, .ref u4, .ref u5, .ref u6, .int (nI (rhN kn)), .ref u7, .int (bB ik), .ref u8, .int (nI ty), .ref u9, .int (nI ta), .int (bB iw), .ref u10, .ref u11])), (u4, .inl (tyI D, 6912, .inl SWT)), (u5, .inl (tyI D, 208, .inl F_)), (u6, .inl (tyI D, 832, .inl (kwF Bf M kn))), (u9, .inl (tyI D, 144, .inl Z_))]) [2, 0, 3, 4, 1] rfl (by decide) ?_
          exact E 193 _ (nI (plL s (min k (sv_ps s)))) _ dX9_play_193 (⟨_, _, by assumption, rfl, rfl⟩)
        ·
          have hpi := hpc i_ (by omega)
          refine g_aload_n O dX9_play_51 0 rfl rfl ?_
          refine g_aload_n O dX9_play_52 0 rfl rfl ?_
          refine g_get O hiX9_play_X9 2 rfl rfl 4 (by decide) (by decide +kernel) rfl dX9_play_53 ?_
          refine g_sipush (x := (nI 160)) O dX9_play_56 (by decide +kernel) ?_
          refine g_ialdN O 3 rfl (by omega) (by omega) dX9_play_59 ?_
          refine g_eq (st' := [.int (nI (sv_fs s i_)), .ref u0]) (by rw [(RM_mp hF (by omega)).1]) rfl rfl ?_
          refine g_aload_n O dX9_play_60 0 rfl rfl ?_
          refine g_get O hiX9_play_X9 2 rfl rfl 4 (by decide) (by decide +kernel) rfl dX9_play_61 ?_
          refine g_sipush (x := (nI 161)) O dX9_play_64 (by decide +kernel) ?_
          refine g_ialdN O 3 rfl (by omega) (by omega) dX9_play_67 ?_
          refine g_eq (st' := [.int (nI (sv_fa s i_)), .int (nI (sv_fs s i_)), .ref u0]) (by rw [(RM_mp hF (by omega)).2.1]) rfl rfl ?_
          refine g_callS (As := [.int (nI (sv_fs s i_)), .int (nI (sv_fa s i_))]) (wr := [(u4, .inl (tyI D, 6912, .inl SWT)), (u9, .inl (tyI D, 144, .inl Z_)), (u0, .inr (9, [.ref u1, .ref u2, .ref u3, .ref u4, .ref u5, .ref u6, .int (nI (rhN kn)), .ref u7, .int (bB ik), .ref u8, .int (nI ty), .ref u9, .int (nI ta), .int (bB iw), .ref u10, .ref u11])), (u5, .inl (tyI D, 208, .inl F_)), (u6, .inl (tyI D, 832, .inl (kwF Bf M kn)))]) O (kX9_bowPlace l D z (sv_fs s i_) (sv_fa s i_) (by first | assumption | omega | exact hpi.1)) gX9_play_X9_bowPlace rfl rfl rfl 2 (by decide +kernel) (by decide) (by decide) [] [0, 1, 2, 3, 4] rfl (by decide) rfl (by decide) (by decide) rfl rfl (Nat.le_of_ble_eq_true rfl) dX9_play_68 (fun r_9 w_10 hp => ?_)
          obtain ⟨rfl, rfl⟩ := hp
          refine g_eq (st' := [.int (nI (bpN (sv_fs s i_) (sv_fa s i_))), .ref u0]) (ws' := [(u4, .inl (tyI D, 6912, .inl SWT)), (u9, .inl (tyI D, 144, .inl Z_)), (u0, .inr (9, [.ref u1, .ref u2, .ref u3, .ref u4, .ref u5, .ref u6, .int (nI (rhN kn)), .ref u7, .int (bB ik), .ref u8, .int (nI ty), .ref u9, .int (nI ta), .int (bB iw), .ref u10, .ref u11])), (u5, .inl (tyI D, 208, .inl F_)), (u6, .inl (tyI D, 832, .inl (kwF Bf M kn)))]) rfl rfl rfl ?_
          refine g_callV (As := [.int (nI (bpN (sv_fs s i_) (sv_fa s i_)))]) (wr := [(u9, .inl (tyI D, 144, .inl Z_)), (u6, .inl (tyI D, 832, .inl (kwF Bf M kn)))]) O (kX9_soundsAt l D z u0 u1 u2 u3 u4 u5 u6 u7 u8 u9 u10 u11 (rhN kn) ik ty ta iw F_ (mpS s i_) (bpN (sv_fs s i_) (sv_fa s i_)) (by first | assumption | exact bpN_lt hpi.2.1 | exact hoi.1 | exact hoi.2.1) (by first | assumption | exact bpN_lt hpi.2.1 | exact hoi.1 | exact hoi.2.1) (by first | assumption | exact bpN_lt hpi.2.1 | exact hoi.1 | exact hoi.2.1) (by first | assumption | exact bpN_lt hpi.2.1 | exact hoi.1 | exact hoi.2.1)) gX9_play_X9_soundsAt rfl rfl rfl 1 (by decide +kernel) (by decide) (by decide) (q0 := 0) rfl rfl rfl [2, 0, 3] [1, 4] rfl (by decide) rfl (by decide) (by decide) rfl rfl (Nat.le_of_ble_eq_true rfl) dX9_play_71 (fun r_11 w_12 hp => ?_)
          obtain ⟨rfl, rfl⟩ := hp
          refine g_eq (st' := [.int (orN (wyO (mpS s i_) (bpN (sv_fs s i_) (sv_fa s i_))))]) (ws' := [(u9, .inl (tyI D, 144, .inl Z_)), (u6, .inl (tyI D, 832, .inl (kwF Bf M kn))), (u0, .inr (9, [.ref u1, .ref u2, .ref u3, .ref u4, .ref u5, .ref u6, .int (nI (rhN kn)), .ref u7, .int (bB ik), .ref u8, .int (nI ty), .ref u9, .int (nI ta), .int (bB iw), .ref u10, .ref u11])), (u4, .inl (tyI D, 6912, .inl SWT)), (u5, .inl (tyI D, 208, .inl F_))]) rfl rfl rfl ?_
          cases hw : (wyO (plS s i_) (bpN (sv_fs s i_) (sv_fa s i_))) with
          | none =>
            refine g_eq (st' := [.int (-5)]) (by rw [show wyO (mpS s i_) (bpN (sv_fs s i_) (sv_fa s i_)) = none from hw]; rfl) rfl rfl ?_
            have hpl : plL s (i_ + 1) = plL s i_ := by simp only [plL]; rw [k5, k6, hw] <;> rfl
            refine g_istore (L' := [(0, .ref u0), (1, .int (nI k)), (2, .int (nI (plL s i_))), (3, .int (nI i_)), (4, .int (-5))]) O dX9_play_74 (by decide) [1, 2, 3, 4, 0] rfl ?_
            refine g_aload_n O dX9_play_76 0 rfl rfl ?_
            refine g_get O hiX9_play_X9 2 rfl rfl 4 (by decide) (by decide +kernel) rfl dX9_play_77 ?_
            refine g_sipush (x := (nI 162)) O dX9_play_80 (by decide +kernel) ?_
            refine g_ialdN O 4 rfl (by omega) (by omega) dX9_play_83 ?_
            refine g_eq (st' := [.int (nI (sv_fk s i_))]) (by rw [(RM_mp hF (by omega)).2.2]) rfl rfl ?_
            refine g_istore (L' := [(0, .ref u0), (1, .int (nI k)), (2, .int (nI (plL s i_))), (3, .int (nI i_)), (4, .int (-5)), (5, .int (nI (sv_fk s i_)))]) O dX9_play_84 (by decide) [1, 2, 3, 4, 5, 0] rfl ?_
            refine g_aload_n O dX9_play_86 0 rfl rfl ?_
            refine g_iconst (x := (nI 0)) O dX9_play_87 (by decide +kernel) ?_
            refine g_callV (As := [.int (nI 0)]) (wr := [(u9, .inl (tyI D, 144, .inl Z_)), (u6, .inl (tyI D, 832, .inl (kwF Bf M kn))), (u4, .inl (tyI D, 6912, .inl SWT))]) O (kX9_strikeAt l D z u0 u1 u2 u3 u4 u5 u6 u7 u8 u9 u10 u11 (rhN kn) ik ty ta iw F_ (mpS s i_) 0 (by first | assumption | exact hoi.1 | (show 0 < sv_ps s - i_; omega) | (show sv_ps s - i_ ≤ 16; omega)) (by first | assumption | exact hoi.1 | (show 0 < sv_ps s - i_; omega) | (show sv_ps s - i_ ≤ 16; omega)) (by first | assumption | exact hoi.1 | (show 0 < sv_ps s - i_; omega) | (show sv_ps s - i_ ≤ 16; omega)) (by first | assumption | exact hoi.1 | (show 0 < sv_ps s - i_; omega) | (show sv_ps s - i_ ≤ 16; omega))) gX9_play_X9_strikeAt rfl rfl rfl 1 (by decide +kernel) (by decide) (by decide) (q0 := 0) rfl rfl rfl [2, 4] [0, 1, 3] rfl (by decide) rfl (by decide) (by decide) rfl rfl (Nat.le_of_ble_eq_true rfl) dX9_play_88 (fun r_13 w_14 hp => ?_)
            obtain ⟨M9_15, hM9_16, rfl, rfl⟩ := hp
            refine g_eq (st' := []) (ws' := [(u9, .inl (tyI D, 144, .inl Z_)), (u6, .inl (tyI D, 832, .inl (kwF Bf M kn))), (u4, .inl (tyI D, 6912, .inl SWT)), (u0, .inr (9, [.ref u1, .ref u2, .ref u3, .ref u4, .ref u5, .ref u6, .int (nI (rhN kn)), .ref u7, .int (bB ik), .ref u8, .int (nI ty), .ref u9, .int (nI ta), .int (bB iw), .ref u10, .ref u11])), (u5, .inl (tyI D, 208, .inl M9_15))]) rfl rfl rfl ?_
            have hT := hM9_16
            refine g_iconst (x := (nI 0)) O dX9_play_91 (by decide +kernel) ?_
            refine g_istore (L' := [(0, .ref u0), (1, .int (nI k)), (2, .int (nI (plL s i_))), (3, .int (nI i_)), (4, .int (-5)), (5, .int (nI (sv_fk s i_))), (6, .int (nI 0))]) O dX9_play_92 (by decide) [1, 2, 3, 4, 5, 6, 0] rfl ?_
            refine g_iload O dX9_play_94 6 rfl ?_
            refine g_iload O dX9_play_96 5 rfl ?_
            refine g_icmp_geN (tgt := 120) O (by omega) (by omega) dX9_play_98 (by decide) (fun c_17 => (by exfalso; omega)) (fun c_17 => ?_)
            refine g_iload O dX9_play_101 4 rfl ?_
            refine g_bipush (x := (-5)) O dX9_play_103 (by decide +kernel) ?_
            refine g_icmp_eq (tgt := 120) O dX9_play_105 (by decide) (fun c_18 => ?_) (fun c_18 => absurd c_18 (fun h => h rfl))
            refine g_aload_n O dX9_play_120 0 rfl rfl ?_
            refine g_get O hiX9_play_X9 3 rfl rfl 4 (by decide) (by decide +kernel) rfl dX9_play_121 ?_
            refine g_sipush (x := (nI 152)) O dX9_play_124 (by decide +kernel) ?_
            refine g_dup2 O dX9_play_127 rfl rfl ?_
            refine g_ialdN O 4 rfl (by omega) (by omega) dX9_play_128 ?_
            refine g_eq (st' := [.int (sv_mu (plS s i_)), .int (nI 152), .ref u5]) (by rw [RM_mu hT, show sv_mu (rmS (mpS s i_) 0) = sv_mu (plS s i_) from rfl]) rfl rfl ?_
            refine g_iload O dX9_play_129 4 rfl ?_
            refine g_bipush (x := (-5)) O dX9_play_131 (by decide +kernel) ?_
            refine g_icmp_ne (tgt := 140) O dX9_play_133 (by decide) (fun c_19 => absurd c_19 (fun h => h rfl)) (fun c_19 => ?_)
            refine g_iconst (x := (nI 1)) O dX9_play_136 (by decide +kernel) ?_
            refine g_goto (tgt := 141) O dX9_play_137 (by decide) ?_
            refine g_iadd O dX9_play_141 ?_
            refine g_iastN (f' := (upd M9_15 152 ((sv_mu (plS s i_)) + (nI 1)))) (ws' := [(u9, .inl (tyI D, 144, .inl Z_)), (u6, .inl (tyI D, 832, .inl (kwF Bf M kn))), (u4, .inl (tyI D, 6912, .inl SWT)), (u0, .inr (9, [.ref u1, .ref u2, .ref u3, .ref u4, .ref u5, .ref u6, .int (nI (rhN kn)), .ref u7, .int (bB ik), .ref u8, .int (nI ty), .ref u9, .int (nI ta), .int (bB iw), .ref u10, .ref u11])), (u5, .inl (tyI D, 208, .inl (upd M9_15 152 ((sv_mu (plS s i_)) + (nI 1)))))]) O 4 rfl (by omega) (by omega) dX9_play_142 rfl rfl ?_
            have hN1 : RM (upd M9_15 152 ((sv_mu (plS s i_)) + (nI 1))) (s_mu (rmS (mpS s i_) 0) (sv_mu (plS s i_) + nI 1)) := RM_wmu hT
            generalize (upd M9_15 152 ((sv_mu (plS s i_)) + (nI 1))) = N1 at hN1 ⊢
            refine g_aload_n O dX9_play_143 0 rfl rfl ?_
            refine g_get O hiX9_play_X9 3 rfl rfl 4 (by decide) (by decide +kernel) rfl dX9_play_144 ?_
            refine g_sipush (x := (nI 153)) O dX9_play_147 (by decide +kernel) ?_
            refine g_iload O dX9_play_150 4 rfl ?_
            refine g_bipush (x := (-5)) O dX9_play_152 (by decide +kernel) ?_
            refine g_icmp_ne (tgt := 168) O dX9_play_154 (by decide) (fun c_20 => absurd c_20 (fun h => h rfl)) (fun c_20 => ?_)
            refine g_aload_n O dX9_play_157 0 rfl rfl ?_
            refine g_get O hiX9_play_X9 3 rfl rfl 4 (by decide) (by decide +kernel) rfl dX9_play_158 ?_
            refine g_sipush (x := (nI 153)) O dX9_play_161 (by decide +kernel) ?_
            refine g_ialdN O 4 rfl (by omega) (by omega) dX9_play_164 ?_
            refine g_eq (st' := [.int (laM (sv_la (plS s i_))), .int (nI 153), .ref u5]) (by rw [RM_la hN1, show sv_la (s_mu (rmS (mpS s i_) 0) (sv_mu (plS s i_) + nI 1)) = sv_la (plS s i_) from rfl]) rfl rfl ?_
            refine g_goto (tgt := 170) O dX9_play_165 (by decide) ?_
            refine g_iastN (f' := (upd N1 153 (laM (sv_la (plS s i_))))) (ws' := [(u9, .inl (tyI D, 144, .inl Z_)), (u6, .inl (tyI D, 832, .inl (kwF Bf M kn))), (u4, .inl (tyI D, 6912, .inl SWT)), (u0, .inr (9, [.ref u1, .ref u2, .ref u3, .ref u4, .ref u5, .ref u6, .int (nI (rhN kn)), .ref u7, .int (bB ik), .ref u8, .int (nI ty), .ref u9, .int (nI ta), .int (bB iw), .ref u10, .ref u11])), (u5, .inl (tyI D, 208, .inl (upd N1 153 (laM (sv_la (plS s i_))))))]) O 4 rfl (by omega) (by omega) dX9_play_170 rfl rfl ?_
            have hN2 : RM (upd N1 153 (laM (sv_la (plS s i_)))) (s_la (s_mu (rmS (mpS s i_) 0) (sv_mu (plS s i_) + nI 1)) (sv_la (plS s i_))) := RM_wla hN1 (rfl)
            generalize (upd N1 153 (laM (sv_la (plS s i_)))) = N2 at hN2 ⊢
            have hN3 := mp_none hw hN2
            refine g_iload_n O dX9_play_171 2 rfl rfl ?_
            refine g_iload O dX9_play_172 4 rfl ?_
            refine g_bipush (x := (-5)) O dX9_play_174 (by decide +kernel) ?_
            refine g_icmp_ne (tgt := 183) O dX9_play_176 (by decide) (fun c_21 => absurd c_21 (fun h => h rfl)) (fun c_21 => ?_)
            refine g_iconst (x := (nI 0)) O dX9_play_179 (by decide +kernel) ?_
            refine g_goto (tgt := 184) O dX9_play_180 (by decide) ?_
            refine g_iaddN O dX9_play_184 ?_
            refine g_eq (st' := [.int (nI (plL s (i_ + 1)))]) (by rw [hpl] <;> rfl) rfl rfl ?_
            refine g_istore_n (L' := [(0, .ref u0), (1, .int (nI k)), (2, .int (nI (plL s (i_ + 1)))), (3, .int (nI i_)), (4, .int (-5)), (5, .int (nI (sv_fk s i_))), (6, .int (nI 0))]) O dX9_play_185 rfl (by decide) [1, 2, 0, 3, 4, 5, 6] rfl ?_
            refine g_iincN (L' := [(0, .ref u0), (1, .int (nI k)), (2, .int (nI (plL s (i_ + 1)))), (3, .int (nI (i_ + 1))), (4, .int (-5)), (5, .int (nI (sv_fk s i_))), (6, .int (nI 0))]) O dX9_play_186 3 rfl (by decide) [1, 2, 3, 0, 4, 5, 6] rfl ?_
            refine g_goto (tgt := 35) O dX9_play_189 (by decide) ?_
            refine g_perm (ws' := [(u4, .inl (tyI D, 6912, .inl SWT)), (u9, .inl (tyI D, 144, .inl Z_)), (u0, .inr (9, [.ref u1, .ref u2, .ref u3, .ref u4, .ref u5, .ref u6, .int (nI (rhN kn)), .ref u7, .int (bB ik), .ref u8, .int (nI ty), .ref u9, .int (nI ta), .int (bB iw), .ref u10, .ref u11])), (u5, .inl (tyI D, 208, .inl N2)), (u6, .inl (tyI D, 832, .inl (kwF Bf M kn)))]) [2, 0, 3, 4, 1] rfl (by decide) ?_
            refine g_locals (L' := [(0, .ref u0), (1, .int (nI k)), (2, .int (nI (plL s (i_ + 1)))), (3, .int (nI (i_ + 1)))]) [0, 1, 2, 3] rfl ?_
            exact ih_ (i_ + 1) N2 Z_ (by omega) (hN3) (by omega)
          | some w =>
            have hw48 := wyO_lt hw
            refine g_eq (st' := [.int (nI w)]) (by rw [show wyO (mpS s i_) (bpN (sv_fs s i_) (sv_fa s i_)) = some w from hw]; rfl) rfl rfl ?_
            have hpl : plL s (i_ + 1) = plL s i_ + 1 := by simp only [plL]; rw [k5, k6, hw] <;> rfl
            have hw5 : ¬ nI w = -5 := fun h => by have h2 := (nI_toInt (n := w) (by omega)).symm.trans (congrArg Int32.toInt h); have h3 : (-5 : Int32).toInt = -5 := (by decide +kernel); rw [h3] at h2; omega
            refine g_istore (L' := [(0, .ref u0), (1, .int (nI k)), (2, .int (nI (plL s i_))), (3, .int (nI i_)), (4, .int (nI w))]) O dX9_play_74 (by decide) [1, 2, 3, 4, 0] rfl ?_
            refine g_aload_n O dX9_play_76 0 rfl rfl ?_
            refine g_get O hiX9_play_X9 2 rfl rfl 4 (by decide) (by decide +kernel) rfl dX9_play_77 ?_
            refine g_sipush (x := (nI 162)) O dX9_play_80 (by decide +kernel) ?_
            refine g_ialdN O 4 rfl (by omega) (by omega) dX9_play_83 ?_
            refine g_eq (st' := [.int (nI (sv_fk s i_))]) (by rw [(RM_mp hF (by omega)).2.2]) rfl rfl ?_
            refine g_istore (L' := [(0, .ref u0), (1, .int (nI k)), (2, .int (nI (plL s i_))), (3, .int (nI i_)), (4, .int (nI w)), (5, .int (nI (sv_fk s i_)))]) O dX9_play_84 (by decide) [1, 2, 3, 4, 5, 0] rfl ?_
            refine g_aload_n O dX9_play_86 0 rfl rfl ?_
            refine g_iconst (x := (nI 0)) O dX9_play_87 (by decide +kernel) ?_
            refine g_callV (As := [.int (nI 0)]) (wr := [(u9, .inl (tyI D, 144, .inl Z_)), (u6, .inl (tyI D, 832, .inl (kwF Bf M kn))), (u4, .inl (tyI D, 6912, .inl SWT))]) O (kX9_strikeAt l D z u0 u1 u2 u3 u4 u5 u6 u7 u8 u9 u10 u11 (rhN kn) ik ty ta iw F_ (mpS s i_) 0 (by first | assumption | exact hoi.1 | (show 0 < sv_ps s - i_; omega) | (show sv_ps s - i_ ≤ 16; omega)) (by first | assumption | exact hoi.1 | (show 0 < sv_ps s - i_; omega) | (show sv_ps s - i_ ≤ 16; omega)) (by first | assumption | exact hoi.1 | (show 0 < sv_ps s - i_; omega) | (show sv_ps s - i_ ≤ 16; omega)) (by first | assumption | exact hoi.1 | (show 0 < sv_ps s - i_; omega) | (show sv_ps s - i_ ≤ 16; omega))) gX9_play_X9_strikeAt rfl rfl rfl 1 (by decide +kernel) (by decide) (by decide) (q0 := 0) rfl rfl rfl [2, 4] [0, 1, 3] rfl (by decide) rfl (by decide) (by decide) rfl rfl (Nat.le_of_ble_eq_true rfl) dX9_play_88 (fun r_22 w_23 hp => ?_)
            obtain ⟨M9_24, hM9_25, rfl, rfl⟩ := hp
            refine g_eq (st' := []) (ws' := [(u9, .inl (tyI D, 144, .inl Z_)), (u6, .inl (tyI D, 832, .inl (kwF Bf M kn))), (u4, .inl (tyI D, 6912, .inl SWT)), (u0, .inr (9, [.ref u1, .ref u2, .ref u3, .ref u4, .ref u5, .ref u6, .int (nI (rhN kn)), .ref u7, .int (bB ik), .ref u8, .int (nI ty), .ref u9, .int (nI ta), .int (bB iw), .ref u10, .ref u11])), (u5, .inl (tyI D, 208, .inl M9_24))]) rfl rfl rfl ?_
            have hT := hM9_25
            refine g_iconst (x := (nI 0)) O dX9_play_91 (by decide +kernel) ?_
            refine g_istore (L' := [(0, .ref u0), (1, .int (nI k)), (2, .int (nI (plL s i_))), (3, .int (nI i_)), (4, .int (nI w)), (5, .int (nI (sv_fk s i_))), (6, .int (nI 0))]) O dX9_play_92 (by decide) [1, 2, 3, 4, 5, 6, 0] rfl ?_
            have J94 : ∀ (n_ : Nat), ∀ (j_ : Nat) (E_ : Nat → Int32) (Y_ : Nat → Int32) (hj_ : j_ ≤ sv_fk s i_) (hE : RM E_ (skS (rmS (mpS s i_) 0) w j_)), sv_fk s i_ + 1 - j_ < n_ → G X 0 0 94 [(0, .ref u0), (1, .int (nI k)), (2, .int (nI (plL s i_))), (3, .int (nI i_)), (4, .int (nI w)), (5, .int (nI (sv_fk s i_))), (6, .int (nI j_))] [] [(u9, .inl (tyI D, 144, .inl Y_)), (u6, .inl (tyI D, 832, .inl (kwF Bf M kn))), (u4, .inl (tyI D, 6912, .inl SWT)), (u0, .inr (9, [.ref u1, .ref u2, .ref u3, .ref u4, .ref u5, .ref u6, .int (nI (rhN kn)), .ref u7, .int (bB ik), .ref u8, .int (nI ty), .ref u9, .int (nI ta), .int (bB iw), .ref u10, .ref u11])), (u5, .inl (tyI D, 208, .inl E_))] := by
              intro n_
              induction n_ with
              | zero => intro j_ E_ Y_ hj_ hE hm_; exact absurd hm_ (Nat.not_lt_zero _)
              | succ n_ ih94 =>
                intro j_ E_ Y_ hj_ hE hm_
                refine g_iload O dX9_play_94 6 rfl ?_
                refine g_iload O dX9_play_96 5 rfl ?_
                refine g_icmp_geN (tgt := 120) O (by omega) (by omega) dX9_play_98 (by decide) (fun c_26 => ?_) (fun c_26 => ?_)
                ·
                  obtain rfl : j_ = sv_fk s i_ := by omega
                  refine g_aload_n O dX9_play_120 0 rfl rfl ?_
                  refine g_get O hiX9_play_X9 3 rfl rfl 4 (by decide) (by decide +kernel) rfl dX9_play_121 ?_
                  refine g_sipush (x := (nI 152)) O dX9_play_124 (by decide +kernel) ?_
                  refine g_dup2 O dX9_play_127 rfl rfl ?_
                  refine g_ialdN O 4 rfl (by omega) (by omega) dX9_play_128 ?_
                  refine g_eq (st' := [.int (sv_mu (plS s i_)), .int (nI 152), .ref u5]) (by rw [RM_mu hE, show sv_mu (skS (rmS (mpS s i_) 0) w (sv_fk s i_)) = sv_mu (plS s i_) from rfl]) rfl rfl ?_
                  refine g_iload O dX9_play_129 4 rfl ?_
                  refine g_bipush (x := (-5)) O dX9_play_131 (by decide +kernel) ?_
                  refine g_icmp_ne (tgt := 140) O dX9_play_133 (by decide) (fun c_27 => ?_) (fun c_27 => absurd c_27 hw5)
                  refine g_iconst (x := (nI 0)) O dX9_play_140 (by decide +kernel) ?_
                  refine g_iadd O dX9_play_141 ?_
                  refine g_iastN (f' := (upd E_ 152 ((sv_mu (plS s i_)) + (nI 0)))) (ws' := [(u9, .inl (tyI D, 144, .inl Y_)), (u6, .inl (tyI D, 832, .inl (kwF Bf M kn))), (u4, .inl (tyI D, 6912, .inl SWT)), (u0, .inr (9, [.ref u1, .ref u2, .ref u3, .ref u4, .ref u5, .ref u6, .int (nI (rhN kn)), .ref u7, .int (bB ik), .ref u8, .int (nI ty), .ref u9, .int (nI ta), .int (bB iw), .ref u10, .ref u11])), (u5, .inl (tyI D, 208, .inl (upd E_ 152 ((sv_mu (plS s i_)) + (nI 0)))))]) O 4 rfl (by omega) (by omega) dX9_play_142 rfl rfl ?_
                  have hN1 : RM (upd E_ 152 ((sv_mu (plS s i_)) + (nI 0))) (s_mu (skS (rmS (mpS s i_) 0) w (sv_fk s i_)) (sv_mu (plS s i_) + nI 0)) := RM_wmu hE
                  generalize (upd E_ 152 ((sv_mu (plS s i_)) + (nI 0))) = N1 at hN1 ⊢
                  refine g_aload_n O dX9_play_143 0 rfl rfl ?_
                  refine g_get O hiX9_play_X9 3 rfl rfl 4 (by decide) (by decide +kernel) rfl dX9_play_144 ?_
                  refine g_sipush (x := (nI 153)) O dX9_play_147 (by decide +kernel) ?_
                  refine g_iload O dX9_play_150 4 rfl ?_
                  refine g_bipush (x := (-5)) O dX9_play_152 (by decide +kernel) ?_
                  refine g_icmp_ne (tgt := 168) O dX9_play_154 (by decide) (fun c_28 => ?_) (fun c_28 => absurd c_28 hw5)
                  refine g_iload O dX9_play_168 4 rfl ?_
                  refine g_iastN (f' := (upd N1 153 (nI w))) (ws' := [(u9, .inl (tyI D, 144, .inl Y_)), (u6, .inl (tyI D, 832, .inl (kwF Bf M kn))), (u4, .inl (tyI D, 6912, .inl SWT)), (u0, .inr (9, [.ref u1, .ref u2, .ref u3, .ref u4, .ref u5, .ref u6, .int (nI (rhN kn)), .ref u7, .int (bB ik), .ref u8, .int (nI ty), .ref u9, .int (nI ta), .int (bB iw), .ref u10, .ref u11])), (u5, .inl (tyI D, 208, .inl (upd N1 153 (nI w))))]) O 4 rfl (by omega) (by omega) dX9_play_170 rfl rfl ?_
                  have hN2 : RM (upd N1 153 (nI w)) (s_la (s_mu (skS (rmS (mpS s i_) 0) w (sv_fk s i_)) (sv_mu (plS s i_) + nI 0)) (nI w)) := RM_wla hN1 (by simp only [laM]; rw [if_neg (nI_pos (by omega))])
                  generalize (upd N1 153 (nI w)) = N2 at hN2 ⊢
                  have hN3 := mp_some hw hN2
                  refine g_iload_n O dX9_play_171 2 rfl rfl ?_
                  refine g_iload O dX9_play_172 4 rfl ?_
                  refine g_bipush (x := (-5)) O dX9_play_174 (by decide +kernel) ?_
                  refine g_icmp_ne (tgt := 183) O dX9_play_176 (by decide) (fun c_29 => ?_) (fun c_29 => absurd c_29 hw5)
                  refine g_iconst (x := (nI 1)) O dX9_play_183 (by decide +kernel) ?_
                  refine g_iaddN O dX9_play_184 ?_
                  refine g_eq (st' := [.int (nI (plL s (i_ + 1)))]) (by rw [hpl] <;> rfl) rfl rfl ?_
                  refine g_istore_n (L' := [(0, .ref u0), (1, .int (nI k)), (2, .int (nI (plL s (i_ + 1)))), (3, .int (nI i_)), (4, .int (nI w)), (5, .int (nI (sv_fk s i_))), (6, .int (nI (sv_fk s i_)))]) O dX9_play_185 rfl (by decide) [1, 2, 0, 3, 4, 5, 6] rfl ?_
                  refine g_iincN (L' := [(0, .ref u0), (1, .int (nI k)), (2, .int (nI (plL s (i_ + 1)))), (3, .int (nI (i_ + 1))), (4, .int (nI w)), (5, .int (nI (sv_fk s i_))), (6, .int (nI (sv_fk s i_)))]) O dX9_play_186 3 rfl (by decide) [1, 2, 3, 0, 4, 5, 6] rfl ?_
                  refine g_goto (tgt := 35) O dX9_play_189 (by decide) ?_
                  refine g_perm (ws' := [(u4, .inl (tyI D, 6912, .inl SWT)), (u9, .inl (tyI D, 144, .inl Y_)), (u0, .inr (9, [.ref u1, .ref u2, .ref u3, .ref u4, .ref u5, .ref u6, .int (nI (rhN kn)), .ref u7, .int (bB ik), .ref u8, .int (nI ty), .ref u9, .int (nI ta), .int (bB iw), .ref u10, .ref u11])), (u5, .inl (tyI D, 208, .inl N2)), (u6, .inl (tyI D, 832, .inl (kwF Bf M kn)))]) [2, 0, 3, 4, 1] rfl (by decide) ?_
                  refine g_locals (L' := [(0, .ref u0), (1, .int (nI k)), (2, .int (nI (plL s (i_ + 1)))), (3, .int (nI (i_ + 1)))]) [0, 1, 2, 3] rfl ?_
                  exact ih_ (i_ + 1) N2 Y_ (by omega) (hN3) (by omega)
                ·
                  refine g_iload O dX9_play_101 4 rfl ?_
                  refine g_bipush (x := (-5)) O dX9_play_103 (by decide +kernel) ?_
                  refine g_icmp_eq (tgt := 120) O dX9_play_105 (by decide) (fun c_30 => absurd c_30 hw5) (fun c_30 => ?_)
                  refine g_aload_n O dX9_play_108 0 rfl rfl ?_
                  refine g_iload O dX9_play_109 4 rfl ?_
                  refine g_callV (As := [.int (nI w)]) (wr := [(u6, .inl (tyI D, 832, .inl (kwF Bf M kn)))]) O (kX9_stroke l D z u0 u1 u2 u3 u4 u5 u6 u7 u8 u9 u10 u11 (rhN kn) ik ty ta iw E_ Y_ (skS (rmS (mpS s i_) 0) w j_) w (by first | assumption | exact (fun p hp => Nat.lt_of_le_of_lt (Nat.le_trans (smN_ge hp) (Nat.le_trans (stI_sum _ _ _ _ _) hoi.2.2.2.2.2)) hB)) (by first | assumption | exact (fun p hp => Nat.lt_of_le_of_lt (Nat.le_trans (smN_ge hp) (Nat.le_trans (stI_sum _ _ _ _ _) hoi.2.2.2.2.2)) hB)) (by first | assumption | exact (fun p hp => Nat.lt_of_le_of_lt (Nat.le_trans (smN_ge hp) (Nat.le_trans (stI_sum _ _ _ _ _) hoi.2.2.2.2.2)) hB))) gX9_play_X9_stroke rfl rfl rfl 1 (by decide +kernel) (by decide) (by decide) (q0 := 0) rfl rfl rfl [3, 2, 4, 0] [1] rfl (by decide) rfl (by decide) (by decide) rfl rfl (Nat.le_of_ble_eq_true rfl) dX9_play_111 (fun r_31 w_32 hp => ?_)
                  obtain ⟨M9_33, Mo9_34, hM9_35, rfl, rfl⟩ := hp
                  refine g_eq (st' := []) (ws' := [(u6, .inl (tyI D, 832, .inl (kwF Bf M kn))), (u0, .inr (9, [.ref u1, .ref u2, .ref u3, .ref u4, .ref u5, .ref u6, .int (nI (rhN kn)), .ref u7, .int (bB ik), .ref u8, .int (nI ty), .ref u9, .int (nI ta), .int (bB iw), .ref u10, .ref u11])), (u4, .inl (tyI D, 6912, .inl SWT)), (u5, .inl (tyI D, 208, .inl M9_33)), (u9, .inl (tyI D, 144, .inl Mo9_34))]) rfl rfl rfl ?_
                  refine g_iincN (L' := [(0, .ref u0), (1, .int (nI k)), (2, .int (nI (plL s i_))), (3, .int (nI i_)), (4, .int (nI w)), (5, .int (nI (sv_fk s i_))), (6, .int (nI (j_ + 1)))]) O dX9_play_114 6 rfl (by decide) [1, 2, 3, 4, 5, 6, 0] rfl ?_
                  refine g_goto (tgt := 94) O dX9_play_117 (by decide) ?_
                  refine g_perm (ws' := [(u9, .inl (tyI D, 144, .inl Mo9_34)), (u6, .inl (tyI D, 832, .inl (kwF Bf M kn))), (u4, .inl (tyI D, 6912, .inl SWT)), (u0, .inr (9, [.ref u1, .ref u2, .ref u3, .ref u4, .ref u5, .ref u6, .int (nI (rhN kn)), .ref u7, .int (bB ik), .ref u8, .int (nI ty), .ref u9, .int (nI ta), .int (bB iw), .ref u10, .ref u11])), (u5, .inl (tyI D, 208, .inl M9_33))]) [4, 0, 2, 1, 3] rfl (by decide) ?_
                  exact ih94 (j_ + 1) M9_33 Mo9_34 (by first | assumption | omega | rfl) (skS_s (by assumption)) (by omega)
            exact J94 _ 0 _ _ (Nat.zero_le _) (skS_0 hT) (Nat.lt_succ_self _)
  exact J35 _ 0 M Mo (Nat.zero_le _) (mpS_0 hM) (Nat.lt_succ_self _)
