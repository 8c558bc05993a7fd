theorem hiX9_know_X9 : ∀ w ∈ wsX90, w ∈ wsX9_know := by decide +kernel
set_option maxHeartbeats 4000000 in
set_option maxRecDepth 100000 in
/-- a state is known -/
theorem kX9_know (l : Launch) (D : va_G) (z : Nat × Nat × Nat) (u0 : Nat) (u1 : Nat) (u2 : Nat) (u3 : Nat) (u4 : Nat) (u5 : Nat) (u6 : Nat) (u7 : Nat) (u8 : Nat) (u9 : Nat) (u10 : Nat) (u11 : Nat) (kn : Nat) (ik : Bool) (ty : Nat) (ta : Nat) (iw : Bool) (M : Nat → Int32) (Bf : Nat → Int32) (hkn : kn ≤ 4) : CM l yX9_know wsX9_know ({ frames := 0, cells := 0, slots := 0, locals := 0 } : Room) D z [.ref u0] [(u0, .inr (9, [.ref u1, .ref u2, .ref u3, .ref u4, .ref u5, .ref u6, .int (nI kn), .ref u7, .int (bB ik), .ref u8, .int (nI ty), .ref u9, .int (nI ta), .int (bB iw), .ref u10, .ref u11])), (u5, .inl ((TY D)[0].1, 208, .inl M)), (u6, .inl ((TY D)[0].1, 832, .inl Bf))] (fun r_ w_ => r_ = none ∧ w_ = [(u0, .inr (9, [.ref u1, .ref u2, .ref u3, .ref u4, .ref u5, .ref u6, .int (nI (rhN kn)), .ref u7, .int (bB ik), .ref u8, .int (nI ty), .ref u9, .int (nI ta), .int (bB iw), .ref u10, .ref u11])), (u5, .inl ((TY D)[0].1, 208, .inl M)), (u6, .inl ((TY D)[0].1, 832, .inl (kwF Bf M kn)))]) 0 0 := by
  refine CM_void (own := RX9) (cc := cX9_know) (maxL := 2) (L0 := [(0, .ref u0)]) (by decide) rfl rfl (Nat.le_of_ble_eq_true rfl) rfl (fun X O E => ?_)
  by_cases h4 : kn = 4
  ·
    subst h4
    refine g_aload_n O dX9_know_0 0 rfl rfl ?_
    refine g_get O hiX9_know_X9 0 rfl rfl 6 (by decide) (by decide +kernel) rfl dX9_know_1 ?_
    refine g_iconst (x := (nI 4)) O dX9_know_4 (by decide +kernel) ?_
    refine g_icmp_neN (tgt := 49) O (by omega) (by omega) dX9_know_5 (by decide) (fun c_1 => absurd c_1 (by decide)) (fun c_1 => ?_)
    refine g_iconst (x := (nI 0)) O dX9_know_8 (by decide +kernel) ?_
    refine g_istore_n (L' := [(0, .ref u0), (1, .int (nI 0))]) O dX9_know_9 rfl (by decide) [1, 0] rfl ?_
    have J10 : ∀ (n_ : Nat), ∀ (i_ : Nat) (F_ : Nat → Int32) (hi_ : i_ ≤ 624) (hF : F_ = sh1 Bf i_), 624 - i_ < n_ → G X 0 0 10 [(0, .ref u0), (1, .int (nI i_))] [] [(u0, .inr (9, [.ref u1, .ref u2, .ref u3, .ref u4, .ref u5, .ref u6, .int (nI 4), .ref u7, .int (bB ik), .ref u8, .int (nI ty), .ref u9, .int (nI ta), .int (bB iw), .ref u10, .ref u11])), (u5, .inl ((TY D)[0].1, 208, .inl M)), (u6, .inl ((TY D)[0].1, 832, .inl F_))] := by
      intro n_
      induction n_ with
      | zero => intro i_ F_ hi_ hF hm_; exact absurd hm_ (Nat.not_lt_zero _)
      | succ n_ ih_ =>
        intro i_ F_ hi_ hF hm_
        refine g_iload_n O dX9_know_10 1 rfl rfl ?_
        refine g_sipush (x := (nI 624)) O dX9_know_11 (by decide +kernel) ?_
        refine g_icmp_geN (tgt := 39) O (by omega) (by omega) dX9_know_14 (by decide) (fun c_2 => ?_) (fun c_2 => ?_)
        ·
          obtain rfl : i_ = 624 := by omega
          subst hF
          refine g_aload_n O dX9_know_39 0 rfl rfl ?_
          refine g_dup O dX9_know_40 rfl ?_
          refine g_get O hiX9_know_X9 0 rfl rfl 6 (by decide) (by decide +kernel) rfl dX9_know_41 ?_
          refine g_iconst (x := (nI 1)) O dX9_know_44 (by decide +kernel) ?_
          refine g_isubN O (by omega) dX9_know_45 ?_
          refine g_put (ws' := [(u0, .inr (9, [.ref u1, .ref u2, .ref u3, .ref u4, .ref u5, .ref u6, .int (nI (4 - 1)), .ref u7, .int (bB ik), .ref u8, .int (nI ty), .ref u9, .int (nI ta), .int (bB iw), .ref u10, .ref u11])), (u5, .inl ((TY D)[0].1, 208, .inl M)), (u6, .inl ((TY D)[0].1, 832, .inl (sh1 Bf 624)))]) O hiX9_know_X9 tyX9 tyX9_ok nmX9 0 rfl rfl 6 (by decide) (by decide +kernel) rfl (tyX9_ok 6 (by decide)) rfl rfl (Nat.le_of_ble_eq_true rfl) dX9_know_46 rfl ?_
          obtain ⟨B0, hB0⟩ : ∃ f, f = (sh1 Bf 624) := ⟨_, rfl⟩
          obtain ⟨k0, hk0⟩ : ∃ k, k = 4 - 1 := ⟨_, rfl⟩
          refine g_eq (ws' := [(u0, .inr (9, [.ref u1, .ref u2, .ref u3, .ref u4, .ref u5, .ref u6, .int (nI k0), .ref u7, .int (bB ik), .ref u8, .int (nI ty), .ref u9, .int (nI ta), .int (bB iw), .ref u10, .ref u11])), (u5, .inl ((TY D)[0].1, 208, .inl M)), (u6, .inl ((TY D)[0].1, 832, .inl B0))]) rfl rfl (by rw [hB0, hk0]) ?_
          have hk3 : k0 ≤ 3 := by omega
          refine g_iconst (x := (nI 0)) O dX9_know_49 (by decide +kernel) ?_
          refine g_istore_n (L' := [(0, .ref u0), (1, .int (nI 0))]) O dX9_know_50 rfl (by decide) [1, 0] rfl ?_
          have J51 : ∀ (n_ : Nat), ∀ (i_ : Nat) (F_ : Nat → Int32) (hi_ : i_ ≤ 208) (hF : F_ = mwF B0 M k0 i_), 208 - i_ < n_ → G X 0 0 51 [(0, .ref u0), (1, .int (nI i_))] [] [(u0, .inr (9, [.ref u1, .ref u2, .ref u3, .ref u4, .ref u5, .ref u6, .int (nI k0), .ref u7, .int (bB ik), .ref u8, .int (nI ty), .ref u9, .int (nI ta), .int (bB iw), .ref u10, .ref u11])), (u5, .inl ((TY D)[0].1, 208, .inl M)), (u6, .inl ((TY D)[0].1, 832, .inl F_))] := by
            intro n_
            induction n_ with
            | zero => intro i_ F_ hi_ hF hm_; exact absurd hm_ (Nat.not_lt_zero _)
            | succ n_ ih_ =>
              intro i_ F_ hi_ hF hm_
              refine g_iload_n O dX9_know_51 1 rfl rfl ?_
              refine g_sipush (x := (nI 208)) O dX9_know_52 (by decide +kernel) ?_
              refine g_icmp_geN (tgt := 85) O (by omega) (by omega) dX9_know_55 (by decide) (fun c_3 => ?_) (fun c_3 => ?_)
              ·
                obtain rfl : i_ = 208 := by omega
                subst hF
                refine g_aload_n O dX9_know_85 0 rfl rfl ?_
                refine g_dup O dX9_know_86 rfl ?_
                refine g_get O hiX9_know_X9 0 rfl rfl 6 (by decide) (by decide +kernel) rfl dX9_know_87 ?_
                refine g_iconst (x := (nI 1)) O dX9_know_90 (by decide +kernel) ?_
                refine g_iaddN O dX9_know_91 ?_
                refine g_put (ws' := [(u0, .inr (9, [.ref u1, .ref u2, .ref u3, .ref u4, .ref u5, .ref u6, .int (nI (k0 + 1)), .ref u7, .int (bB ik), .ref u8, .int (nI ty), .ref u9, .int (nI ta), .int (bB iw), .ref u10, .ref u11])), (u5, .inl ((TY D)[0].1, 208, .inl M)), (u6, .inl ((TY D)[0].1, 832, .inl (mwF B0 M k0 208)))]) O hiX9_know_X9 tyX9 tyX9_ok nmX9 0 rfl rfl 6 (by decide) (by decide +kernel) rfl (tyX9_ok 6 (by decide)) rfl rfl (Nat.le_of_ble_eq_true rfl) dX9_know_92 rfl ?_
                exact E 95 _ _ dX9_know_95 (by subst hB0; subst hk0; exact ⟨rfl, rfl⟩)
              ·
                refine g_aload_n O dX9_know_58 0 rfl rfl ?_
                refine g_get O hiX9_know_X9 0 rfl rfl 5 (by decide) (by decide +kernel) rfl dX9_know_59 ?_
                refine g_sipush (x := (nI 208)) O dX9_know_62 (by decide +kernel) ?_
                refine g_aload_n O dX9_know_65 0 rfl rfl ?_
                refine g_get O hiX9_know_X9 0 rfl rfl 6 (by decide) (by decide +kernel) rfl dX9_know_66 ?_
                refine g_imulN O dX9_know_69 ?_
                refine g_iload_n O dX9_know_70 1 rfl rfl ?_
                refine g_iaddN O dX9_know_71 ?_
                refine g_aload_n O dX9_know_72 0 rfl rfl ?_
                refine g_get O hiX9_know_X9 0 rfl rfl 4 (by decide) (by decide +kernel) rfl dX9_know_73 ?_
                refine g_iload_n O dX9_know_76 1 rfl rfl ?_
                refine g_ialdN O 1 rfl (by omega) (by omega) dX9_know_77 ?_
                refine g_iastN (f' := (upd F_ ((208 * k0) + i_) (M i_))) (ws' := [(u0, .inr (9, [.ref u1, .ref u2, .ref u3, .ref u4, .ref u5, .ref u6, .int (nI k0), .ref u7, .int (bB ik), .ref u8, .int (nI ty), .ref u9, .int (nI ta), .int (bB iw), .ref u10, .ref u11])), (u5, .inl ((TY D)[0].1, 208, .inl M)), (u6, .inl ((TY D)[0].1, 832, .inl (upd F_ ((208 * k0) + i_) (M i_))))]) O 2 rfl (by omega) (by omega) dX9_know_78 rfl rfl ?_
                refine g_iincN (L' := [(0, .ref u0), (1, .int (nI (i_ + 1)))]) O dX9_know_79 1 rfl (by decide) [1, 0] rfl ?_
                refine g_goto (tgt := 51) O dX9_know_82 (by decide) ?_
                exact ih_ (i_ + 1) _ (by first | assumption | omega | rfl) (by rw [hF]; exact mwF_s _ _ _ _) (by omega)
          exact J51 _ 0 B0 (Nat.zero_le _) ((mwF_0 _ _ _).symm) (Nat.lt_succ_self _)
        ·
          refine g_aload_n O dX9_know_17 0 rfl rfl ?_
          refine g_get O hiX9_know_X9 0 rfl rfl 5 (by decide) (by decide +kernel) rfl dX9_know_18 ?_
          refine g_iload_n O dX9_know_21 1 rfl rfl ?_
          refine g_aload_n O dX9_know_22 0 rfl rfl ?_
          refine g_get O hiX9_know_X9 0 rfl rfl 5 (by decide) (by decide +kernel) rfl dX9_know_23 ?_
          refine g_sipush (x := (nI 208)) O dX9_know_26 (by decide +kernel) ?_
          refine g_iload_n O dX9_know_29 1 rfl rfl ?_
          refine g_iaddN O dX9_know_30 ?_
          refine g_ialdN O 2 rfl (by omega) (by omega) dX9_know_31 ?_
          refine g_iastN (f' := (upd F_ i_ (F_ (208 + i_)))) (ws' := [(u0, .inr (9, [.ref u1, .ref u2, .ref u3, .ref u4, .ref u5, .ref u6, .int (nI 4), .ref u7, .int (bB ik), .ref u8, .int (nI ty), .ref u9, .int (nI ta), .int (bB iw), .ref u10, .ref u11])), (u5, .inl ((TY D)[0].1, 208, .inl M)), (u6, .inl ((TY D)[0].1, 832, .inl (upd F_ i_ (F_ (208 + i_)))))]) O 2 rfl (by omega) (by omega) dX9_know_32 rfl rfl ?_
          refine g_iincN (L' := [(0, .ref u0), (1, .int (nI (i_ + 1)))]) O dX9_know_33 1 rfl (by decide) [1, 0] rfl ?_
          refine g_goto (tgt := 10) O dX9_know_36 (by decide) ?_
          exact ih_ (i_ + 1) _ (by first | assumption | omega | rfl) (by rw [hF]; exact sh1_s _ _) (by omega)
    exact J10 _ 0 Bf (Nat.zero_le _) ((sh1_0 _).symm) (Nat.lt_succ_self _)
  ·
    refine g_aload_n O dX9_know_0 0 rfl rfl ?_
    refine g_get O hiX9_know_X9 0 rfl rfl 6 (by decide) (by decide +kernel) rfl dX9_know_1 ?_
    refine g_iconst (x := (nI 4)) O dX9_know_4 (by decide +kernel) ?_
    refine g_icmp_neN (tgt := 49) O (by omega) (by omega) dX9_know_5 (by decide) (fun c_4 => ?_) (fun c_4 => absurd c_4 h4)
    obtain ⟨B0, hB0⟩ : ∃ f, f = Bf := ⟨_, rfl⟩
    obtain ⟨k0, hk0⟩ : ∃ k, k = kn := ⟨_, rfl⟩
    refine g_eq (ws' := [(u0, .inr (9, [.ref u1, .ref u2, .ref u3, .ref u4, .ref u5, .ref u6, .int (nI k0), .ref u7, .int (bB ik), .ref u8, .int (nI ty), .ref u9, .int (nI ta), .int (bB iw), .ref u10, .ref u11])), (u5, .inl ((TY D)[0].1, 208, .inl M)), (u6, .inl ((TY D)[0].1, 832, .inl B0))]) rfl rfl (by rw [hB0, hk0]) ?_
    have hk3 : k0 ≤ 3 := by omega
    refine g_iconst (x := (nI 0)) O dX9_know_49 (by decide +kernel) ?_
    refine g_istore_n (L' := [(0, .ref u0), (1, .int (nI 0))]) O dX9_know_50 rfl (by decide) [1, 0] rfl ?_
    have J51 : ∀ (n_ : Nat), ∀ (i_ : Nat) (F_ : Nat → Int32) (hi_ : i_ ≤ 208) (hF : F_ = mwF B0 M k0 i_), 208 - i_ < n_ → G X 0 0 51 [(0, .ref u0), (1, .int (nI i_))] [] [(u0, .inr (9, [.ref u1, .ref u2, .ref u3, .ref u4, .ref u5, .ref u6, .int (nI k0), .ref u7, .int (bB ik), .ref u8, .int (nI ty), .ref u9, .int (nI ta), .int (bB iw), .ref u10, .ref u11])), (u5, .inl ((TY D)[0].1, 208, .inl M)), (u6, .inl ((TY D)[0].1, 832, .inl F_))] := by
      intro n_
      induction n_ with
      | zero => intro i_ F_ hi_ hF hm_; exact absurd hm_ (Nat.not_lt_zero _)
      | succ n_ ih_ =>
        intro i_ F_ hi_ hF hm_
        refine g_iload_n O dX9_know_51 1 rfl rfl ?_
        refine g_sipush (x := (nI 208)) O dX9_know_52 (by decide +kernel) ?_
        refine g_icmp_geN (tgt := 85) O (by omega) (by omega) dX9_know_55 (by decide) (fun c_5 => ?_) (fun c_5 => ?_)
        ·
          obtain rfl : i_ = 208 := by omega
          subst hF
          refine g_aload_n O dX9_know_85 0 rfl rfl ?_
          refine g_dup O dX9_know_86 rfl ?_
          refine g_get O hiX9_know_X9 0 rfl rfl 6 (by decide) (by decide +kernel) rfl dX9_know_87 ?_
          refine g_iconst (x := (nI 1)) O dX9_know_90 (by decide +kernel) ?_
          refine g_iaddN O dX9_know_91 ?_
          refine g_put (ws' := [(u0, .inr (9, [.ref u1, .ref u2, .ref u3, .ref u4, .ref u5, .ref u6, .int (nI (k0 + 1)), .ref u7, .int (bB ik), .ref u8, .int (nI ty), .ref u9, .int (nI ta), .int (bB iw), .ref u10, .ref u11])), (u5, .inl ((TY D)[0].1, 208, .inl M)), (u6, .inl ((TY D)[0].1, 832, .inl (mwF B0 M k0 208)))]) O hiX9_know_X9 tyX9 tyX9_ok nmX9 0 rfl rfl 6 (by decide) (by decide +kernel) rfl (tyX9_ok 6 (by decide)) rfl rfl (Nat.le_of_ble_eq_true rfl) dX9_know_92 rfl ?_
          exact E 95 _ _ dX9_know_95 (by subst hB0; subst hk0; rw [show rhN kn = kn + 1 from if_neg h4, show kwF Bf M kn = mwF Bf M kn 208 from if_neg h4]; exact ⟨rfl, rfl⟩)
        ·
          refine g_aload_n O dX9_know_58 0 rfl rfl ?_
          refine g_get O hiX9_know_X9 0 rfl rfl 5 (by decide) (by decide +kernel) rfl dX9_know_59 ?_
          refine g_sipush (x := (nI 208)) O dX9_know_62 (by decide +kernel) ?_
          refine g_aload_n O dX9_know_65 0 rfl rfl ?_
          refine g_get O hiX9_know_X9 0 rfl rfl 6 (by decide) (by decide +kernel) rfl dX9_know_66 ?_
          refine g_imulN O dX9_know_69 ?_
          refine g_iload_n O dX9_know_70 1 rfl rfl ?_
          refine g_iaddN O dX9_know_71 ?_
          refine g_aload_n O dX9_know_72 0 rfl rfl ?_
          refine g_get O hiX9_know_X9 0 rfl rfl 4 (by decide) (by decide +kernel) rfl dX9_know_73 ?_
          refine g_iload_n O dX9_know_76 1 rfl rfl ?_
          refine g_ialdN O 1 rfl (by omega) (by omega) dX9_know_77 ?_
          refine g_iastN (f' := (upd F_ ((208 * k0) + i_) (M i_))) (ws' := [(u0, .inr (9, [.ref u1, .ref u2, .ref u3, .ref u4, .ref u5, .ref u6, .int (nI k0), .ref u7, .int (bB ik), .ref u8, .int (nI ty), .ref u9, .int (nI ta), .int (bB iw), .ref u10, .ref u11])), (u5, .inl ((TY D)[0].1, 208, .inl M)), (u6, .inl ((TY D)[0].1, 832, .inl (upd F_ ((208 * k0) + i_) (M i_))))]) O 2 rfl (by omega) (by omega) dX9_know_78 rfl rfl ?_
          refine g_iincN (L' := [(0, .ref u0), (1, .int (nI (i_ + 1)))]) O dX9_know_79 1 rfl (by decide) [1, 0] rfl ?_
          refine g_goto (tgt := 51) O dX9_know_82 (by decide) ?_
          exact ih_ (i_ + 1) _ (by first | assumption | omega | rfl) (by rw [hF]; exact mwF_s _ _ _ _) (by omega)
    exact J51 _ 0 B0 (Nat.zero_le _) ((mwF_0 _ _ _).symm) (Nat.lt_succ_self _)

set_option maxHeartbeats 4000000 in
set_option maxRecDepth 100000 in
theorem kX9_strew_b1 (l : Launch) (D : va_G) (z : Nat × Nat × Nat) (u0 : Nat) (u1 : Nat) (u2 : Nat) (u3 : Nat) (u4 : Nat) (u5 : Nat) (u6 : Nat) (u7 : Nat) (u8 : Nat) (u9 : Nat) (u10 : Nat) (u11 : Nat) (kn : Nat) (ik : Bool) (ty : Nat) (ta : Nat) (iw : Bool) (x : Int32) (y : Int32) (k : Int32) (hb : (rgB x 12 && rgB y 12) = false) : CM l yX9_strew wsX9_strew ({ frames := 2, cells := 0, slots := 0, locals := 43 } : Room) D z [.ref u0, .int x, .int y, .int k] [(u0, .inr (9, [.ref u1, .ref u2, .ref u3, .ref u4, .ref u5, .ref u6, .int (nI kn), .ref u7, .int (bB ik), .ref u8, .int (nI ty), .ref u9, .int (nI ta), .int (bB iw), .ref u10, .ref u11]))] (fun r_ w_ => r_ = some (.int (-1)) ∧ w_ = [(u0, .inr (9, [.ref u1, .ref u2, .ref u3, .ref u4, .ref u5, .ref u6, .int (nI kn), .ref u7, .int (bB ik), .ref u8, .int (nI ty), .ref u9, .int (nI ta), .int (bB iw), .ref u10, .ref u11]))]) 0 0 := by
  refine CM_int (own := RX9) (cc := cX9_strew) (maxL := 4) (L0 := [(0, .ref u0), (1, .int x), (2, .int y), (3, .int k)]) (by decide) rfl rfl (Nat.le_of_ble_eq_true rfl) rfl (fun X O E => ?_)
  refine g_iload_n O dX9_strew_0 1 rfl rfl ?_
  refine g_iload_n O dX9_strew_1 2 rfl rfl ?_
  refine g_callS (As := [.int x, .int y]) (wr := [(u0, .inr (9, [.ref u1, .ref u2, .ref u3, .ref u4, .ref u5, .ref u6, .int (nI kn), .ref u7, .int (bB ik), .ref u8, .int (nI ty), .ref u9, .int (nI ta), .int (bB iw), .ref u10, .ref u11]))]) O (kX9_isOn l D z x y ) gX9_strew_X9_isOn rfl rfl rfl 2 (by decide +kernel) (by decide) (by decide) [] [0] rfl (by decide) rfl (by decide) (by decide) rfl rfl (Nat.le_of_ble_eq_true rfl) dX9_strew_2 (fun r_1 w_2 hp => ?_)
  obtain ⟨rfl, rfl⟩ := hp
  refine g_eq (st' := [.int (bB (rgB x 12 && rgB y 12))]) (ws' := [(u0, .inr (9, [.ref u1, .ref u2, .ref u3, .ref u4, .ref u5, .ref u6, .int (nI kn), .ref u7, .int (bB ik), .ref u8, .int (nI ty), .ref u9, .int (nI ta), .int (bB iw), .ref u10, .ref u11]))]) rfl rfl rfl ?_
  refine g_if_neB (tgt := 10) O dX9_strew_5 (by decide) (fun c_3 => absurd c_3 (by rw [hb]; decide)) (fun c_3 => ?_)
  refine g_iconst (x := (-1)) O dX9_strew_8 (by decide +kernel) ?_
  exact E 9 _ (-1) _ dX9_strew_9 ⟨rfl, rfl⟩

set_option maxHeartbeats 4000000 in
set_option maxRecDepth 100000 in
theorem kX9_strew_b2 (l : Launch) (D : va_G) (z : Nat × Nat × Nat) (u0 : Nat) (u1 : Nat) (u2 : Nat) (u3 : Nat) (u4 : Nat) (u5 : Nat) (u6 : Nat) (u7 : Nat) (u8 : Nat) (u9 : Nat) (u10 : Nat) (u11 : Nat) (kn : Nat) (ik : Bool) (ty : Nat) (ta : Nat) (iw : Bool) (x : Nat) (y : Nat) (k : Int32) (hx : x < 12) (hy : y < 12) (hb : k < nI 1 ∨ nI 99 < k) : CM l yX9_strew wsX9_strew ({ frames := 2, cells := 0, slots := 0, locals := 43 } : Room) D z [.ref u0, .int (nI x), .int (nI y), .int k] [(u0, .inr (9, [.ref u1, .ref u2, .ref u3, .ref u4, .ref u5, .ref u6, .int (nI kn), .ref u7, .int (bB ik), .ref u8, .int (nI ty), .ref u9, .int (nI ta), .int (bB iw), .ref u10, .ref u11]))] (fun r_ w_ => r_ = some (.int (-2)) ∧ w_ = [(u0, .inr (9, [.ref u1, .ref u2, .ref u3, .ref u4, .ref u5, .ref u6, .int (nI kn), .ref u7, .int (bB ik), .ref u8, .int (nI ty), .ref u9, .int (nI ta), .int (bB iw), .ref u10, .ref u11]))]) 0 0 := by
  refine CM_int (own := RX9) (cc := cX9_strew) (maxL := 4) (L0 := [(0, .ref u0), (1, .int (nI x)), (2, .int (nI y)), (3, .int k)]) (by decide) rfl rfl (Nat.le_of_ble_eq_true rfl) rfl (fun X O E => ?_)
  refine g_iload_n O dX9_strew_0 1 rfl rfl ?_
  refine g_iload_n O dX9_strew_1 2 rfl rfl ?_
  refine g_callS (As := [.int (nI x), .int (nI y)]) (wr := [(u0, .inr (9, [.ref u1, .ref u2, .ref u3, .ref u4, .ref u5, .ref u6, .int (nI kn), .ref u7, .int (bB ik), .ref u8, .int (nI ty), .ref u9, .int (nI ta), .int (bB iw), .ref u10, .ref u11]))]) O (kX9_isOn l D z (nI x) (nI y) ) gX9_strew_X9_isOn rfl rfl rfl 2 (by decide +kernel) (by decide) (by decide) [] [0] rfl (by decide) rfl (by decide) (by decide) rfl rfl (Nat.le_of_ble_eq_true rfl) dX9_strew_2 (fun r_1 w_2 hp => ?_)
  obtain ⟨rfl, rfl⟩ := hp
  refine g_eq (st' := [.int (bB (rgB (nI x) 12 && rgB (nI y) 12))]) (ws' := [(u0, .inr (9, [.ref u1, .ref u2, .ref u3, .ref u4, .ref u5, .ref u6, .int (nI kn), .ref u7, .int (bB ik), .ref u8, .int (nI ty), .ref u9, .int (nI ta), .int (bB iw), .ref u10, .ref u11]))]) rfl rfl rfl ?_
  refine g_if_neB (tgt := 10) O dX9_strew_5 (by decide) (fun c_3 => ?_) (fun c_3 => absurd c_3 (by rw [rgB_t hx (by decide), rgB_t hy (by decide)]; decide))
  refine g_iload_n O dX9_strew_10 3 rfl rfl ?_
  refine g_iconst (x := (nI 1)) O dX9_strew_11 (by decide +kernel) ?_
  refine g_bipush (x := (nI 99)) O dX9_strew_12 (by decide +kernel) ?_
  refine g_callS (As := [.int k, .int (nI 1), .int (nI 99)]) (wr := [(u0, .inr (9, [.ref u1, .ref u2, .ref u3, .ref u4, .ref u5, .ref u6, .int (nI kn), .ref u7, .int (bB ik), .ref u8, .int (nI ty), .ref u9, .int (nI ta), .int (bB iw), .ref u10, .ref u11]))]) O (kX9_in l D z k (nI 1) (nI 99) ) gX9_strew_X9_in rfl rfl rfl 3 (by decide +kernel) (by decide) (by decide) [] [0] rfl (by decide) rfl (by decide) (by decide) rfl rfl (Nat.le_of_ble_eq_true rfl) dX9_strew_14 (fun r_4 w_5 hp => ?_)
  obtain ⟨rfl, rfl⟩ := hp
  refine g_eq (st' := [.int (bB (inI k (nI 1) (nI 99)))]) (ws' := [(u0, .inr (9, [.ref u1, .ref u2, .ref u3, .ref u4, .ref u5, .ref u6, .int (nI kn), .ref u7, .int (bB ik), .ref u8, .int (nI ty), .ref u9, .int (nI ta), .int (bB iw), .ref u10, .ref u11]))]) rfl rfl rfl ?_
  refine g_if_neB (tgt := 23) O dX9_strew_17 (by decide) (fun c_6 => absurd c_6 (by rw [inI_f hb]; decide)) (fun c_6 => ?_)
  refine g_bipush (x := (-2)) O dX9_strew_20 (by decide +kernel) ?_
  exact E 22 _ (-2) _ dX9_strew_22 ⟨rfl, rfl⟩

theorem hiX9_strew_X9 : ∀ w ∈ wsX90, w ∈ wsX9_strew := by decide +kernel
set_option maxHeartbeats 4000000 in
set_option maxRecDepth 100000 in
theorem kX9_strew_ok (l : Launch) (D : va_G) (z : Nat × Nat × Nat) (u0 : Nat) (u1 : Nat) (u2 : Nat) (u3 : Nat) (u4 : Nat) (u5 : Nat) (u6 : Nat) (u7 : Nat) (u8 : Nat) (u9 : Nat) (u10 : Nat) (u11 : Nat) (kn : Nat) (ik : Bool) (ty : Nat) (ta : Nat) (iw : Bool) (M : Nat → Int32) (Bf : Nat → Int32) (s : SV) (x : Nat) (y : Nat) (k : Nat) (hM : RM M s) (hkn : kn ≤ 4) (hx : x < 12) (hy : y < 12) (hk1 : 1 ≤ k) (hk2 : k ≤ 99) : CM l yX9_strew wsX9_strew ({ frames := 2, cells := 0, slots := 0, locals := 43 } : Room) D z [.ref u0, .int (nI x), .int (nI y), .int (nI k)] [(u0, .inr (9, [.ref u1, .ref u2, .ref u3, .ref u4, .ref u5, .ref u6, .int (nI kn), .ref u7, .int (bB ik), .ref u8, .int (nI ty), .ref u9, .int (nI ta), .int (bB iw), .ref u10, .ref u11])), (u5, .inl ((TY D)[0].1, 208, .inl M)), (u6, .inl ((TY D)[0].1, 832, .inl Bf))] (fun r_ w_ => ∃ (M9 : Nat → Int32), (RM M9 (mkS (upf (sv_g s) (y * 12 + x) ((sv_g s) (y * 12 + x) + k)) (sv_cc s) (sv_cr s) (sv_nc s) (sv_se s) (sv_fs s) (sv_fa s) (sv_fk s) (sv_ps s) (sv_la s) (sv_st s + nI k) (sv_sw s) (sv_fl s) (sv_sk s) (sv_mu s))) ∧ r_ = some (.int (nI (sv_g s (y * 12 + x) + k))) ∧ w_ = [(u0, .inr (9, [.ref u1, .ref u2, .ref u3, .ref u4, .ref u5, .ref u6, .int (nI (rhN kn)), .ref u7, .int (bB ik), .ref u8, .int (nI ty), .ref u9, .int (nI ta), .int (bB iw), .ref u10, .ref u11])), (u5, .inl ((TY D)[0].1, 208, .inl M9)), (u6, .inl ((TY D)[0].1, 832, .inl (kwF Bf M kn)))]) 0 0 := by
  refine CM_int (own := RX9) (cc := cX9_strew) (maxL := 4) (L0 := [(0, .ref u0), (1, .int (nI x)), (2, .int (nI y)), (3, .int (nI k))]) (by decide) rfl rfl (Nat.le_of_ble_eq_true rfl) rfl (fun X O E => ?_)
  refine g_iload_n O dX9_strew_0 1 rfl rfl ?_
  refine g_iload_n O dX9_strew_1 2 rfl rfl ?_
  refine g_callS (As := [.int (nI x), .int (nI y)]) (wr := [(u0, .inr (9, [.ref u1, .ref u2, .ref u3, .ref u4, .ref u5, .ref u6, .int (nI kn), .ref u7, .int (bB ik), .ref u8, .int (nI ty), .ref u9, .int (nI ta), .int (bB iw), .ref u10, .ref u11])), (u5, .inl ((TY D)[0].1, 208, .inl M)), (u6, .inl ((TY D)[0].1, 832, .inl Bf))]) O (kX9_isOn l D z (nI x) (nI y) ) gX9_strew_X9_isOn rfl rfl rfl 2 (by decide +kernel) (by decide) (by decide) [] [0, 1, 2] rfl (by decide) rfl (by decide) (by decide) rfl rfl (Nat.le_of_ble_eq_true rfl) dX9_strew_2 (fun r_1 w_2 hp => ?_)
  obtain ⟨rfl, rfl⟩ := hp
  refine g_eq (st' := [.int (bB (rgB (nI x) 12 && rgB (nI y) 12))]) (ws' := [(u0, .inr (9, [.ref u1, .ref u2, .ref u3, .ref u4, .ref u5, .ref u6, .int (nI kn), .ref u7, .int (bB ik), .ref u8, .int (nI ty), .ref u9, .int (nI ta), .int (bB iw), .ref u10, .ref u11])), (u5, .inl ((TY D)[0].1, 208, .inl M)), (u6, .inl ((TY D)[0].1, 832, .inl Bf))]) rfl rfl rfl ?_
  refine g_if_neB (tgt := 10) O dX9_strew_5 (by decide) (fun c_3 => ?_) (fun c_3 => absurd c_3 (by rw [rgB_t hx (by decide), rgB_t hy (by decide)]; decide))
  refine g_iload_n O dX9_strew_10 3 rfl rfl ?_
  refine g_iconst (x := (nI 1)) O dX9_strew_11 (by decide +kernel) ?_
  refine g_bipush (x := (nI 99)) O dX9_strew_12 (by decide +kernel) ?_
  refine g_callS (As := [.int (nI k), .int (nI 1), .int (nI 99)]) (wr := [(u0, .inr (9, [.ref u1, .ref u2, .ref u3, .ref u4, .ref u5, .ref u6, .int (nI kn), .ref u7, .int (bB ik), .ref u8, .int (nI ty), .ref u9, .int (nI ta), .int (bB iw), .ref u10, .ref u11])), (u5, .inl ((TY D)[0].1, 208, .inl M)), (u6, .inl ((TY D)[0].1, 832, .inl Bf))]) O (kX9_in l D z (nI k) (nI 1) (nI 99) ) gX9_strew_X9_in rfl rfl rfl 3 (by decide +kernel) (by decide) (by decide) [] [0, 1, 2] rfl (by decide) rfl (by decide) (by decide) rfl rfl (Nat.le_of_ble_eq_true rfl) dX9_strew_14 (fun r_4 w_5 hp => ?_)
  obtain ⟨rfl, rfl⟩ := hp
  refine g_eq (st' := [.int (bB (inI (nI k) (nI 1) (nI 99)))]) (ws' := [(u0, .inr (9, [.ref u1, .ref u2, .ref u3, .ref u4, .ref u5, .ref u6, .int (nI kn), .ref u7, .int (bB ik), .ref u8, .int (nI ty), .ref u9, .int (nI ta), .int (bB iw), .ref u10, .ref u11])), (u5, .inl ((TY D)[0].1, 208, .inl M)), (u6, .inl ((TY D)[0].1, 832, .inl Bf))]) rfl rfl rfl ?_
  refine g_if_neB (tgt := 23) O dX9_strew_17 (by decide) (fun c_6 => ?_) (fun c_6 => absurd c_6 (by rw [inI_t (nI_le (a := 1) (by omega) (by omega)) (nI_le (b := 99) (by omega) (by omega))]; decide))
  refine g_aload_n O dX9_strew_23 0 rfl rfl ?_
  refine g_callV (As := []) (wr := []) O (kX9_know l D z u0 u1 u2 u3 u4 u5 u6 u7 u8 u9 u10 u11 kn ik ty ta iw M Bf (by first | assumption | omega)) gX9_strew_X9_know rfl rfl rfl 0 (by decide +kernel) (by decide) (by decide) (q0 := 0) rfl rfl rfl [0, 1, 2] [] rfl (by decide) rfl (by decide) (by decide) rfl rfl (Nat.le_of_ble_eq_true rfl) dX9_strew_24 (fun r_7 w_8 hp => ?_)
  obtain ⟨rfl, rfl⟩ := hp
  refine g_eq (st' := []) (ws' := [(u0, .inr (9, [.ref u1, .ref u2, .ref u3, .ref u4, .ref u5, .ref u6, .int (nI (rhN kn)), .ref u7, .int (bB ik), .ref u8, .int (nI ty), .ref u9, .int (nI ta), .int (bB iw), .ref u10, .ref u11])), (u5, .inl ((TY D)[0].1, 208, .inl M)), (u6, .inl ((TY D)[0].1, 832, .inl (kwF Bf M kn)))]) rfl rfl rfl ?_
  refine g_aload_n O dX9_strew_27 0 rfl rfl ?_
  refine g_get O hiX9_strew_X9 0 rfl rfl 4 (by decide) (by decide +kernel) rfl dX9_strew_28 ?_
  refine g_iconst (x := (nI 0)) O dX9_strew_31 (by decide +kernel) ?_
  refine g_bipush (x := (nI 12)) O dX9_strew_32 (by decide +kernel) ?_
  refine g_iload_n O dX9_strew_34 2 rfl rfl ?_
  refine g_imulN O dX9_strew_35 ?_
  refine g_iaddN O dX9_strew_36 ?_
  refine g_iload_n O dX9_strew_37 1 rfl rfl ?_
  refine g_iaddN O dX9_strew_38 ?_
  refine g_dup2 O dX9_strew_39 rfl rfl ?_
  refine g_ialdN O 1 rfl (by omega) (by omega) dX9_strew_40 ?_
  refine g_eq (st' := [.int (nI (sv_g s (y * 12 + x))), .int (nI ((0 + (12 * y)) + x)), .ref u5]) (by rw [RM_gE hM (show (0 + (12 * y)) + x = (y * 12 + x) by omega) (by omega)]) rfl rfl ?_
  refine g_iload_n O dX9_strew_41 3 rfl rfl ?_
  refine g_iaddN O dX9_strew_42 ?_
  refine g_iastN (f' := (upd M ((0 + (12 * y)) + x) (nI ((sv_g s (y * 12 + x)) + k)))) (ws' := [(u0, .inr (9, [.ref u1, .ref u2, .ref u3, .ref u4, .ref u5, .ref u6, .int (nI (rhN kn)), .ref u7, .int (bB ik), .ref u8, .int (nI ty), .ref u9, .int (nI ta), .int (bB iw), .ref u10, .ref u11])), (u5, .inl ((TY D)[0].1, 208, .inl (upd M ((0 + (12 * y)) + x) (nI ((sv_g s (y * 12 + x)) + k))))), (u6, .inl ((TY D)[0].1, 832, .inl (kwF Bf M kn)))]) O 1 rfl (by omega) (by omega) dX9_strew_43 rfl rfl ?_
  have hM1 : RM (upd M ((0 + (12 * y)) + x) (nI ((sv_g s (y * 12 + x)) + k))) (s_g s (upf (sv_g s) (y * 12 + x) (sv_g s (y * 12 + x) + k))) := by rw [show (0 + (12 * y)) + x = y * 12 + x by omega]; exact RM_wg hM (by omega)
  generalize (upd M ((0 + (12 * y)) + x) (nI ((sv_g s (y * 12 + x)) + k))) = M1 at hM1 ⊢
  refine g_aload_n O dX9_strew_44 0 rfl rfl ?_
  refine g_get O hiX9_strew_X9 0 rfl rfl 4 (by decide) (by decide +kernel) rfl dX9_strew_45 ?_
  refine g_sipush (x := (nI 148)) O dX9_strew_48 (by decide +kernel) ?_
  refine g_dup2 O dX9_strew_51 rfl rfl ?_
  refine g_ialdN O 1 rfl (by omega) (by omega) dX9_strew_52 ?_
  refine g_eq (st' := [.int (sv_st (s_g s (upf (sv_g s) (y * 12 + x) (sv_g s (y * 12 + x) + k)))), .int (nI 148), .ref u5]) (by rw [RM_st hM1]) rfl rfl ?_
  refine g_iload_n O dX9_strew_53 3 rfl rfl ?_
  refine g_iadd O dX9_strew_54 ?_
  refine g_iastN (f' := (upd M1 148 ((sv_st (s_g s (upf (sv_g s) (y * 12 + x) (sv_g s (y * 12 + x) + k)))) + (nI k)))) (ws' := [(u0, .inr (9, [.ref u1, .ref u2, .ref u3, .ref u4, .ref u5, .ref u6, .int (nI (rhN kn)), .ref u7, .int (bB ik), .ref u8, .int (nI ty), .ref u9, .int (nI ta), .int (bB iw), .ref u10, .ref u11])), (u5, .inl ((TY D)[0].1, 208, .inl (upd M1 148 ((sv_st (s_g s (upf (sv_g s) (y * 12 + x) (sv_g s (y * 12 + x) + k)))) + (nI k))))), (u6, .inl ((TY D)[0].1, 832, .inl (kwF Bf M kn)))]) O 1 rfl (by omega) (by omega) dX9_strew_55 rfl rfl ?_
  have hMf : RM (upd M1 148 ((sv_st (s_g s (upf (sv_g s) (y * 12 + x) (sv_g s (y * 12 + x) + k)))) + (nI k))) (s_st (s_g s (upf (sv_g s) (y * 12 + x) (sv_g s (y * 12 + x) + k))) (sv_st s + nI k)) := RM_wst hM1
  generalize (upd M1 148 ((sv_st (s_g s (upf (sv_g s) (y * 12 + x) (sv_g s (y * 12 + x) + k)))) + (nI k))) = M2 at hMf ⊢
  refine g_aload_n O dX9_strew_56 0 rfl rfl ?_
  refine g_get O hiX9_strew_X9 0 rfl rfl 4 (by decide) (by decide +kernel) rfl dX9_strew_57 ?_
  refine g_iconst (x := (nI 0)) O dX9_strew_60 (by decide +kernel) ?_
  refine g_bipush (x := (nI 12)) O dX9_strew_61 (by decide +kernel) ?_
  refine g_iload_n O dX9_strew_63 2 rfl rfl ?_
  refine g_imulN O dX9_strew_64 ?_
  refine g_iaddN O dX9_strew_65 ?_
  refine g_iload_n O dX9_strew_66 1 rfl rfl ?_
  refine g_iaddN O dX9_strew_67 ?_
  refine g_ialdN O 1 rfl (by omega) (by omega) dX9_strew_68 ?_
  refine g_eq (st' := [.int (nI (sv_g s (y * 12 + x) + k))]) (by rw [RM_gE hMf (show (0 + (12 * y)) + x = y * 12 + x by omega) (by omega), show sv_g (s_st (s_g s (upf (sv_g s) (y * 12 + x) (sv_g s (y * 12 + x) + k))) (sv_st s + nI k)) (y * 12 + x) = sv_g s (y * 12 + x) + k from upf_s _ _ _]) rfl rfl ?_
  exact E 69 _ (nI (sv_g s (y * 12 + x) + k)) _ dX9_strew_69 (⟨_, hMf, rfl, rfl⟩)

set_option maxHeartbeats 4000000 in
set_option maxRecDepth 100000 in
theorem kX9_sweep_b1 (l : Launch) (D : va_G) (z : Nat × Nat × Nat) (u0 : Nat) (u1 : Nat) (u2 : Nat) (u3 : Nat) (u4 : Nat) (u5 : Nat) (u6 : Nat) (u7 : Nat) (u8 : Nat) (u9 : Nat) (u10 : Nat) (u11 : Nat) (kn : Nat) (ik : Bool) (ty : Nat) (ta : Nat) (iw : Bool) (k : Int32) (hb : k < 0 ∨ nI 99 < k) : CM l yX9_sweep wsX9_sweep ({ frames := 1, cells := 0, slots := 0, locals := 22 } : Room) D z [.ref u0, .int k] [(u0, .inr (9, [.ref u1, .ref u2, .ref u3, .ref u4, .ref u5, .ref u6, .int (nI kn), .ref u7, .int (bB ik), .ref u8, .int (nI ty), .ref u9, .int (nI ta), .int (bB iw), .ref u10, .ref u11]))] (fun r_ w_ => r_ = some (.int (-2)) ∧ w_ = [(u0, .inr (9, [.ref u1, .ref u2, .ref u3, .ref u4, .ref u5, .ref u6, .int (nI kn), .ref u7, .int (bB ik), .ref u8, .int (nI ty), .ref u9, .int (nI ta), .int (bB iw), .ref u10, .ref u11]))]) 0 0 := by
  refine CM_int (own := RX9) (cc := cX9_sweep) (maxL := 4) (L0 := [(0, .ref u0), (1, .int k)]) (by decide) rfl rfl (Nat.le_of_ble_eq_true rfl) rfl (fun X O E => ?_)
  refine g_iload_n O dX9_sweep_0 1 rfl rfl ?_
  refine g_iconst (x := (nI 0)) O dX9_sweep_1 (by decide +kernel) ?_
  refine g_bipush (x := (nI 99)) O dX9_sweep_2 (by decide +kernel) ?_
  refine g_callS (As := [.int k, .int (nI 0), .int (nI 99)]) (wr := [(u0, .inr (9, [.ref u1, .ref u2, .ref u3, .ref u4, .ref u5, .ref u6, .int (nI kn), .ref u7, .int (bB ik), .ref u8, .int (nI ty), .ref u9, .int (nI ta), .int (bB iw), .ref u10, .ref u11]))]) O (kX9_in l D z k (nI 0) (nI 99) ) gX9_sweep_X9_in rfl rfl rfl 3 (by decide +kernel) (by decide) (by decide) [] [0] rfl (by decide) rfl (by decide) (by decide) rfl rfl (Nat.le_of_ble_eq_true rfl) dX9_sweep_4 (fun r_1 w_2 hp => ?_)
  obtain ⟨rfl, rfl⟩ := hp
  refine g_eq (st' := [.int (bB (inI k (nI 0) (nI 99)))]) (ws' := [(u0, .inr (9, [.ref u1, .ref u2, .ref u3, .ref u4, .ref u5, .ref u6, .int (nI kn), .ref u7, .int (bB ik), .ref u8, .int (nI ty), .ref u9, .int (nI ta), .int (bB iw), .ref u10, .ref u11]))]) rfl rfl rfl ?_
  refine g_if_neB (tgt := 13) O dX9_sweep_7 (by decide) (fun c_3 => absurd c_3 (by rw [inI_f (lo := nI 0) (by rw [nI_0]; exact hb)]; decide)) (fun c_3 => ?_)
  refine g_bipush (x := (-2)) O dX9_sweep_10 (by decide +kernel) ?_
  exact E 12 _ (-2) _ dX9_sweep_12 ⟨rfl, rfl⟩

theorem hiX9_sweep_X9 : ∀ w ∈ wsX90, w ∈ wsX9_sweep := by decide +kernel
set_option maxHeartbeats 4000000 in
set_option maxRecDepth 100000 in
theorem kX9_sweep_ok (l : Launch) (D : va_G) (z : Nat × Nat × Nat) (u0 : Nat) (u1 : Nat) (u2 : Nat) (u3 : Nat) (u4 : Nat) (u5 : Nat) (u6 : Nat) (u7 : Nat) (u8 : Nat) (u9 : Nat) (u10 : Nat) (u11 : Nat) (kn : Nat) (ik : Bool) (ty : Nat) (ta : Nat) (iw : Bool) (M : Nat → Int32) (Bf : Nat → Int32) (s : SV) (k : Nat) (hM : RM M s) (hkn : kn ≤ 4) (hk2 : k ≤ 99) : CM l yX9_sweep wsX9_sweep ({ frames := 1, cells := 0, slots := 0, locals := 22 } : Room) D z [.ref u0, .int (nI k)] [(u0, .inr (9, [.ref u1, .ref u2, .ref u3, .ref u4, .ref u5, .ref u6, .int (nI kn), .ref u7, .int (bB ik), .ref u8, .int (nI ty), .ref u9, .int (nI ta), .int (bB iw), .ref u10, .ref u11])), (u5, .inl ((TY D)[0].1, 208, .inl M)), (u6, .inl ((TY D)[0].1, 832, .inl Bf))] (fun r_ w_ => ∃ (M9 : Nat → Int32), (RM M9 (mkS (cvf (sv_g s) k 144) (sv_cc s) (sv_cr s) (sv_nc s) (sv_se s) (sv_fs s) (sv_fa s) (sv_fk s) (sv_ps s) (sv_la s) (sv_st s + nI (144 * k)) (sv_sw s + nI (smN (sv_g s) 144)) (sv_fl s) (sv_sk s) (sv_mu s))) ∧ r_ = some (.int (nI (smN (sv_g s) 144))) ∧ w_ = [(u0, .inr (9, [.ref u1, .ref u2, .ref u3, .ref u4, .ref u5, .ref u6, .int (nI (rhN kn)), .ref u7, .int (bB ik), .ref u8, .int (nI ty), .ref u9, .int (nI ta), .int (bB iw), .ref u10, .ref u11])), (u5, .inl ((TY D)[0].1, 208, .inl M9)), (u6, .inl ((TY D)[0].1, 832, .inl (kwF Bf M kn)))]) 0 0 := by
  refine CM_int (own := RX9) (cc := cX9_sweep) (maxL := 4) (L0 := [(0, .ref u0), (1, .int (nI k))]) (by decide) rfl rfl (Nat.le_of_ble_eq_true rfl) rfl (fun X O E => ?_)
  refine g_iload_n O dX9_sweep_0 1 rfl rfl ?_
  refine g_iconst (x := (nI 0)) O dX9_sweep_1 (by decide +kernel) ?_
  refine g_bipush (x := (nI 99)) O dX9_sweep_2 (by decide +kernel) ?_
  refine g_callS (As := [.int (nI k), .int (nI 0), .int (nI 99)]) (wr := [(u0, .inr (9, [.ref u1, .ref u2, .ref u3, .ref u4, .ref u5, .ref u6, .int (nI kn), .ref u7, .int (bB ik), .ref u8, .int (nI ty), .ref u9, .int (nI ta), .int (bB iw), .ref u10, .ref u11])), (u5, .inl ((TY D)[0].1, 208, .inl M)), (u6, .inl ((TY D)[0].1, 832, .inl Bf))]) O (kX9_in l D z (nI k) (nI 0) (nI 99) ) gX9_sweep_X9_in rfl rfl rfl 3 (by decide +kernel) (by decide) (by decide) [] [0, 1, 2] rfl (by decide) rfl (by decide) (by decide) rfl rfl (Nat.le_of_ble_eq_true rfl) dX9_sweep_4 (fun r_1 w_2 hp => ?_)
  obtain ⟨rfl, rfl⟩ := hp
  refine g_eq (st' := [.int (bB (inI (nI k) (nI 0) (nI 99)))]) (ws' := [(u0, .inr (9, [.ref u1, .ref u2, .ref u3, .ref u4, .ref u5, .ref u6, .int (nI kn), .ref u7, .int (bB ik), .ref u8, .int (nI ty), .ref u9, .int (nI ta), .int (bB iw), .ref u10, .ref u11])), (u5, .inl ((TY D)[0].1, 208, .inl M)), (u6, .inl ((TY D)[0].1, 832, .inl Bf))]) rfl rfl rfl ?_
  refine g_if_neB (tgt := 13) O dX9_sweep_7 (by decide) (fun c_3 => ?_) (fun c_3 => absurd c_3 (by rw [inI_t (nI_le (a := 0) (by omega) (by omega)) (nI_le (b := 99) (by omega) (by omega))]; decide))
  refine g_aload_n O dX9_sweep_13 0 rfl rfl ?_
  refine g_callV (As := []) (wr := []) O (kX9_know l D z u0 u1 u2 u3 u4 u5 u6 u7 u8 u9 u10 u11 kn ik ty ta iw M Bf (by first | assumption | omega)) gX9_sweep_X9_know rfl rfl rfl 0 (by decide +kernel) (by decide) (by decide) (q0 := 0) rfl rfl rfl [0, 1, 2] [] rfl (by decide) rfl (by decide) (by decide) rfl rfl (Nat.le_of_ble_eq_true rfl) dX9_sweep_14 (fun r_4 w_5 hp => ?_)
  obtain ⟨rfl, rfl⟩ := hp
  refine g_eq (st' := []) (ws' := [(u0, .inr (9, [.ref u1, .ref u2, .ref u3, .ref u4, .ref u5, .ref u6, .int (nI (rhN kn)), .ref u7, .int (bB ik), .ref u8, .int (nI ty), .ref u9, .int (nI ta), .int (bB iw), .ref u10, .ref u11])), (u5, .inl ((TY D)[0].1, 208, .inl M)), (u6, .inl ((TY D)[0].1, 832, .inl (kwF Bf M kn)))]) rfl rfl rfl ?_
  refine g_aload_n O dX9_sweep_17 0 rfl rfl ?_
  refine g_callV (As := []) (wr := [(u6, .inl ((TY D)[0].1, 832, .inl (kwF Bf M kn)))]) O (kX9_allGrains l D z u0 u1 u2 u3 u4 u5 u6 u7 u8 u9 u10 u11 (rhN kn) ik ty ta iw M s (by first | assumption | omega)) gX9_sweep_X9_allGrains rfl rfl rfl 0 (by decide +kernel) (by decide) (by decide) (q0 := 0) rfl rfl rfl [0, 1] [2] rfl (by decide) rfl (by decide) (by decide) rfl rfl (Nat.le_of_ble_eq_true rfl) dX9_sweep_18 (fun r_6 w_7 hp => ?_)
  obtain ⟨rfl, rfl⟩ := hp
  refine g_eq (st' := [.int (nI (smN (sv_g s) 144))]) (ws' := [(u6, .inl ((TY D)[0].1, 832, .inl (kwF Bf M kn))), (u0, .inr (9, [.ref u1, .ref u2, .ref u3, .ref u4, .ref u5, .ref u6, .int (nI (rhN kn)), .ref u7, .int (bB ik), .ref u8, .int (nI ty), .ref u9, .int (nI ta), .int (bB iw), .ref u10, .ref u11])), (u5, .inl ((TY D)[0].1, 208, .inl M))]) rfl rfl rfl ?_
  refine g_istore_n (L' := [(0, .ref u0), (1, .int (nI k)), (2, .int (nI (smN (sv_g s) 144)))]) O dX9_sweep_21 rfl (by decide) [1, 2, 0] rfl ?_
  refine g_aload_n O dX9_sweep_22 0 rfl rfl ?_
  refine g_get O hiX9_sweep_X9 1 rfl rfl 4 (by decide) (by decide +kernel) rfl dX9_sweep_23 ?_
  refine g_sipush (x := (nI 149)) O dX9_sweep_26 (by decide +kernel) ?_
  refine g_dup2 O dX9_sweep_29 rfl rfl ?_
  refine g_ialdN O 2 rfl (by omega) (by omega) dX9_sweep_30 ?_
  refine g_eq (st' := [.int (sv_sw s), .int (nI 149), .ref u5]) (by rw [RM_sw hM]) rfl rfl ?_
  refine g_iload_n O dX9_sweep_31 2 rfl rfl ?_
  refine g_iadd O dX9_sweep_32 ?_
  refine g_iastN (f' := (upd M 149 ((sv_sw s) + (nI (smN (sv_g s) 144))))) (ws' := [(u6, .inl ((TY D)[0].1, 832, .inl (kwF Bf M kn))), (u0, .inr (9, [.ref u1, .ref u2, .ref u3, .ref u4, .ref u5, .ref u6, .int (nI (rhN kn)), .ref u7, .int (bB ik), .ref u8, .int (nI ty), .ref u9, .int (nI ta), .int (bB iw), .ref u10, .ref u11])), (u5, .inl ((TY D)[0].1, 208, .inl (upd M 149 ((sv_sw s) + (nI (smN (sv_g s) 144))))))]) O 2 rfl (by omega) (by omega) dX9_sweep_33 rfl rfl ?_
  have hM1 : RM (upd M 149 ((sv_sw s) + (nI (smN (sv_g s) 144)))) (s_sw s (sv_sw s + nI (smN (sv_g s) 144))) := RM_wsw hM
  generalize (upd M 149 ((sv_sw s) + (nI (smN (sv_g s) 144)))) = M1 at hM1 ⊢
  refine g_aload_n O dX9_sweep_34 0 rfl rfl ?_
  refine g_get O hiX9_sweep_X9 1 rfl rfl 4 (by decide) (by decide +kernel) rfl dX9_sweep_35 ?_
  refine g_sipush (x := (nI 148)) O dX9_sweep_38 (by decide +kernel) ?_
  refine g_dup2 O dX9_sweep_41 rfl rfl ?_
  refine g_ialdN O 2 rfl (by omega) (by omega) dX9_sweep_42 ?_
  refine g_eq (st' := [.int (sv_st (s_sw s (sv_sw s + nI (smN (sv_g s) 144)))), .int (nI 148), .ref u5]) (by rw [RM_st hM1]) rfl rfl ?_
  refine g_sipush (x := (nI 144)) O dX9_sweep_43 (by decide +kernel) ?_
  refine g_iload_n O dX9_sweep_46 1 rfl rfl ?_
  refine g_imulN O dX9_sweep_47 ?_
  refine g_iadd O dX9_sweep_48 ?_
  refine g_iastN (f' := (upd M1 148 ((sv_st (s_sw s (sv_sw s + nI (smN (sv_g s) 144)))) + (nI (144 * k))))) (ws' := [(u6, .inl ((TY D)[0].1, 832, .inl (kwF Bf M kn))), (u0, .inr (9, [.ref u1, .ref u2, .ref u3, .ref u4, .ref u5, .ref u6, .int (nI (rhN kn)), .ref u7, .int (bB ik), .ref u8, .int (nI ty), .ref u9, .int (nI ta), .int (bB iw), .ref u10, .ref u11])), (u5, .inl ((TY D)[0].1, 208, .inl (upd M1 148 ((sv_st (s_sw s (sv_sw s + nI (smN (sv_g s) 144)))) + (nI (144 * k))))))]) O 2 rfl (by omega) (by omega) dX9_sweep_49 rfl rfl ?_
  have hM2 : RM (upd M1 148 ((sv_st (s_sw s (sv_sw s + nI (smN (sv_g s) 144)))) + (nI (144 * k)))) (s_st (s_sw s (sv_sw s + nI (smN (sv_g s) 144))) (sv_st s + nI (144 * k))) := RM_wst hM1
  generalize (upd M1 148 ((sv_st (s_sw s (sv_sw s + nI (smN (sv_g s) 144)))) + (nI (144 * k)))) = M2 at hM2 ⊢
  refine g_iconst (x := (nI 0)) O dX9_sweep_50 (by decide +kernel) ?_
  refine g_istore_n (L' := [(0, .ref u0), (1, .int (nI k)), (2, .int (nI (smN (sv_g s) 144))), (3, .int (nI 0))]) O dX9_sweep_51 rfl (by decide) [1, 2, 3, 0] rfl ?_
  have J52 : ∀ (n_ : Nat), ∀ (i_ : Nat) (F_ : Nat → Int32) (hi_ : i_ ≤ 144) (hF : RM F_ (s_g (s_st (s_sw s (sv_sw s + nI (smN (sv_g s) 144))) (sv_st s + nI (144 * k))) (cvf (sv_g s) k i_))), 144 - i_ < n_ → G X 0 0 52 [(0, .ref u0), (1, .int (nI k)), (2, .int (nI (smN (sv_g s) 144))), (3, .int (nI i_))] [] [(u6, .inl ((TY D)[0].1, 832, .inl (kwF Bf M kn))), (u0, .inr (9, [.ref u1, .ref u2, .ref u3, .ref u4, .ref u5, .ref u6, .int (nI (rhN kn)), .ref u7, .int (bB ik), .ref u8, .int (nI ty), .ref u9, .int (nI ta), .int (bB iw), .ref u10, .ref u11])), (u5, .inl ((TY D)[0].1, 208, .inl F_))] := by
    intro n_
    induction n_ with
    | zero => intro i_ F_ hi_ hF hm_; exact absurd hm_ (Nat.not_lt_zero _)
    | succ n_ ih_ =>
      intro i_ F_ hi_ hF hm_
      refine g_iload_n O dX9_sweep_52 3 rfl rfl ?_
      refine g_sipush (x := (nI 144)) O dX9_sweep_53 (by decide +kernel) ?_
      refine g_icmp_geN (tgt := 74) O (by omega) (by omega) dX9_sweep_56 (by decide) (fun c_8 => ?_) (fun c_8 => ?_)
      ·
        obtain rfl : i_ = 144 := by omega
        refine g_iload_n O dX9_sweep_74 2 rfl rfl ?_
        refine g_perm (ws' := [(u0, .inr (9, [.ref u1, .ref u2, .ref u3, .ref u4, .ref u5, .ref u6, .int (nI (rhN kn)), .ref u7, .int (bB ik), .ref u8, .int (nI ty), .ref u9, .int (nI ta), .int (bB iw), .ref u10, .ref u11])), (u5, .inl ((TY D)[0].1, 208, .inl F_)), (u6, .inl ((TY D)[0].1, 832, .inl (kwF Bf M kn)))]) [1, 2, 0] rfl (by decide) ?_
        exact E 75 _ (nI (smN (sv_g s) 144)) _ dX9_sweep_75 (⟨_, hF, rfl, rfl⟩)
      ·
        refine g_aload_n O dX9_sweep_59 0 rfl rfl ?_
        refine g_get O hiX9_sweep_X9 1 rfl rfl 4 (by decide) (by decide +kernel) rfl dX9_sweep_60 ?_
        refine g_iconst (x := (nI 0)) O dX9_sweep_63 (by decide +kernel) ?_
        refine g_iload_n O dX9_sweep_64 3 rfl rfl ?_
        refine g_iaddN O dX9_sweep_65 ?_
        refine g_iload_n O dX9_sweep_66 1 rfl rfl ?_
        refine g_iastN (f' := (upd F_ (0 + i_) (nI k))) (ws' := [(u6, .inl ((TY D)[0].1, 832, .inl (kwF Bf M kn))), (u0, .inr (9, [.ref u1, .ref u2, .ref u3, .ref u4, .ref u5, .ref u6, .int (nI (rhN kn)), .ref u7, .int (bB ik), .ref u8, .int (nI ty), .ref u9, .int (nI ta), .int (bB iw), .ref u10, .ref u11])), (u5, .inl ((TY D)[0].1, 208, .inl (upd F_ (0 + i_) (nI k))))]) O 2 rfl (by omega) (by omega) dX9_sweep_67 rfl rfl ?_
        refine g_iincN (L' := [(0, .ref u0), (1, .int (nI k)), (2, .int (nI (smN (sv_g s) 144))), (3, .int (nI (i_ + 1)))]) O dX9_sweep_68 3 rfl (by decide) [1, 2, 3, 0] rfl ?_
        refine g_goto (tgt := 52) O dX9_sweep_71 (by decide) ?_
        exact ih_ (i_ + 1) _ (by first | assumption | omega | rfl) (by rw [Nat.zero_add]; exact RM_wg hF (by omega)) (by omega)
  exact J52 _ 0 M2 (Nat.zero_le _) (hM2) (Nat.lt_succ_self _)

set_option maxHeartbeats 4000000 in
set_option maxRecDepth 100000 in
theorem kX9_clamp_b1 (l : Launch) (D : va_G) (z : Nat × Nat × Nat) (u0 : Nat) (u1 : Nat) (u2 : Nat) (u3 : Nat) (u4 : Nat) (u5 : Nat) (u6 : Nat) (u7 : Nat) (u8 : Nat) (u9 : Nat) (u10 : Nat) (u11 : Nat) (kn : Nat) (ik : Bool) (ty : Nat) (ta : Nat) (iw : Bool) (x : Int32) (y : Int32) (hb : (rgB x 12 && rgB y 12) = false) : CM l yX9_clamp wsX9_clamp ({ frames := 2, cells := 0, slots := 0, locals := 43 } : Room) D z [.ref u0, .int x, .int y] [(u0, .inr (9, [.ref u1, .ref u2, .ref u3, .ref u4, .ref u5, .ref u6, .int (nI kn), .ref u7, .int (bB ik), .ref u8, .int (nI ty), .ref u9, .int (nI ta), .int (bB iw), .ref u10, .ref u11]))] (fun r_ w_ => r_ = some (.int (-1)) ∧ w_ = [(u0, .inr (9, [.ref u1, .ref u2, .ref u3, .ref u4, .ref u5, .ref u6, .int (nI kn), .ref u7, .int (bB ik), .ref u8, .int (nI ty), .ref u9, .int (nI ta), .int (bB iw), .ref u10, .ref u11]))]) 0 0 := by
  refine CM_int (own := RX9) (cc := cX9_clamp) (maxL := 3) (L0 := [(0, .ref u0), (1, .int x), (2, .int y)]) (by decide) rfl rfl (Nat.le_of_ble_eq_true rfl) rfl (fun X O E => ?_)
  refine g_iload_n O dX9_clamp_0 1 rfl rfl ?_
  refine g_iload_n O dX9_clamp_1 2 rfl rfl ?_
  refine g_callS (As := [.int x, .int y]) (wr := [(u0, .inr (9, [.ref u1, .ref u2, .ref u3, .ref u4, .ref u5, .ref u6, .int (nI kn), .ref u7, .int (bB ik), .ref u8, .int (nI ty), .ref u9, .int (nI ta), .int (bB iw), .ref u10, .ref u11]))]) O (kX9_isOn l D z x y ) gX9_clamp_X9_isOn rfl rfl rfl 2 (by decide +kernel) (by decide) (by decide) [] [0] rfl (by decide) rfl (by decide) (by decide) rfl rfl (Nat.le_of_ble_eq_true rfl) dX9_clamp_2 (fun r_1 w_2 hp => ?_)
  obtain ⟨rfl, rfl⟩ := hp
  refine g_eq (st' := [.int (bB (rgB x 12 && rgB y 12))]) (ws' := [(u0, .inr (9, [.ref u1, .ref u2, .ref u3, .ref u4, .ref u5, .ref u6, .int (nI kn), .ref u7, .int (bB ik), .ref u8, .int (nI ty), .ref u9, .int (nI ta), .int (bB iw), .ref u10, .ref u11]))]) rfl rfl rfl ?_
  refine g_if_neB (tgt := 10) O dX9_clamp_5 (by decide) (fun c_3 => absurd c_3 (by rw [hb]; decide)) (fun c_3 => ?_)
  refine g_iconst (x := (-1)) O dX9_clamp_8 (by decide +kernel) ?_
  exact E 9 _ (-1) _ dX9_clamp_9 ⟨rfl, rfl⟩

theorem hiX9_clamp_X9 : ∀ w ∈ wsX90, w ∈ wsX9_clamp := by decide +kernel
set_option maxHeartbeats 4000000 in
set_option maxRecDepth 100000 in
theorem kX9_clamp_b2 (l : Launch) (D : va_G) (z : Nat × Nat × Nat) (u0 : Nat) (u1 : Nat) (u2 : Nat) (u3 : Nat) (u4 : Nat) (u5 : Nat) (u6 : Nat) (u7 : Nat) (u8 : Nat) (u9 : Nat) (u10 : Nat) (u11 : Nat) (kn : Nat) (ik : Bool) (ty : Nat) (ta : Nat) (iw : Bool) (M : Nat → Int32) (s : SV) (x : Nat) (y : Nat) (hx : x < 12) (hy : y < 12) (hM : RM M s) (hb : sv_nc s = 4) : CM l yX9_clamp wsX9_clamp ({ frames := 2, cells := 0, slots := 0, locals := 43 } : Room) D z [.ref u0, .int (nI x), .int (nI y)] [(u0, .inr (9, [.ref u1, .ref u2, .ref u3, .ref u4, .ref u5, .ref u6, .int (nI kn), .ref u7, .int (bB ik), .ref u8, .int (nI ty), .ref u9, .int (nI ta), .int (bB iw), .ref u10, .ref u11])), (u5, .inl ((TY D)[0].1, 208, .inl M))] (fun r_ w_ => r_ = some (.int (-3)) ∧ w_ = [(u0, .inr (9, [.ref u1, .ref u2, .ref u3, .ref u4, .ref u5, .ref u6, .int (nI kn), .ref u7, .int (bB ik), .ref u8, .int (nI ty), .ref u9, .int (nI ta), .int (bB iw), .ref u10, .ref u11])), (u5, .inl ((TY D)[0].1, 208, .inl M))]) 0 0 := by
  refine CM_int (own := RX9) (cc := cX9_clamp) (maxL := 3) (L0 := [(0, .ref u0), (1, .int (nI x)), (2, .int (nI y))]) (by decide) rfl rfl (Nat.le_of_ble_eq_true rfl) rfl (fun X O E => ?_)
  refine g_iload_n O dX9_clamp_0 1 rfl rfl ?_
  refine g_iload_n O dX9_clamp_1 2 rfl rfl ?_
  refine g_callS (As := [.int (nI x), .int (nI y)]) (wr := [(u0, .inr (9, [.ref u1, .ref u2, .ref u3, .ref u4, .ref u5, .ref u6, .int (nI kn), .ref u7, .int (bB ik), .ref u8, .int (nI ty), .ref u9, .int (nI ta), .int (bB iw), .ref u10, .ref u11])), (u5, .inl ((TY D)[0].1, 208, .inl M))]) O (kX9_isOn l D z (nI x) (nI y) ) gX9_clamp_X9_isOn rfl rfl rfl 2 (by decide +kernel) (by decide) (by decide) [] [0, 1] rfl (by decide) rfl (by decide) (by decide) rfl rfl (Nat.le_of_ble_eq_true rfl) dX9_clamp_2 (fun r_1 w_2 hp => ?_)
  obtain ⟨rfl, rfl⟩ := hp
  refine g_eq (st' := [.int (bB (rgB (nI x) 12 && rgB (nI y) 12))]) (ws' := [(u0, .inr (9, [.ref u1, .ref u2, .ref u3, .ref u4, .ref u5, .ref u6, .int (nI kn), .ref u7, .int (bB ik), .ref u8, .int (nI ty), .ref u9, .int (nI ta), .int (bB iw), .ref u10, .ref u11])), (u5, .inl ((TY D)[0].1, 208, .inl M))]) rfl rfl rfl ?_
  refine g_if_neB (tgt := 10) O dX9_clamp_5 (by decide) (fun c_3 => ?_) (fun c_3 => absurd c_3 (by rw [rgB_t hx (by decide), rgB_t hy (by decide)]; decide))
  refine g_aload_n O dX9_clamp_10 0 rfl rfl ?_
  refine g_get O hiX9_clamp_X9 0 rfl rfl 4 (by decide) (by decide +kernel) rfl dX9_clamp_11 ?_
  refine g_sipush (x := (nI 154)) O dX9_clamp_14 (by decide +kernel) ?_
  refine g_ialdN O 1 rfl (by omega) (by omega) dX9_clamp_17 ?_
  refine g_eq (st' := [.int (nI (sv_nc s))]) (by rw [RM_nc hM]) rfl rfl ?_
  refine g_iconst (x := (nI 4)) O dX9_clamp_18 (by decide +kernel) ?_
  refine g_icmp_neN (tgt := 25) O (by omega) (by omega) dX9_clamp_19 (by decide) (fun c_4 => absurd c_4 (fun h => h hb)) (fun c_4 => ?_)
  refine g_bipush (x := (-3)) O dX9_clamp_22 (by decide +kernel) ?_
  exact E 24 _ (-3) _ dX9_clamp_24 ⟨rfl, rfl⟩

set_option maxHeartbeats 4000000 in
set_option maxRecDepth 100000 in
theorem kX9_clamp_b3 (l : Launch) (D : va_G) (z : Nat × Nat × Nat) (u0 : Nat) (u1 : Nat) (u2 : Nat) (u3 : Nat) (u4 : Nat) (u5 : Nat) (u6 : Nat) (u7 : Nat) (u8 : Nat) (u9 : Nat) (u10 : Nat) (u11 : Nat) (kn : Nat) (ik : Bool) (ty : Nat) (ta : Nat) (iw : Bool) (M : Nat → Int32) (s : SV) (x : Nat) (y : Nat) (k : Nat) (hx : x < 12) (hy : y < 12) (hM : RM M s) (hnc : sv_nc s ≤ 4) (hcc : ∀ j, j < sv_nc s → sv_cc s j < 12 ∧ sv_cr s j < 12) (hb : sv_nc s < 4) (hd : (fdB (fun j => decide (12 * sv_cr s j + sv_cc s j = 12 * y + x)) (sv_nc s)) = some k) : CM l yX9_clamp wsX9_clamp ({ frames := 2, cells := 0, slots := 0, locals := 43 } : Room) D z [.ref u0, .int (nI x), .int (nI y)] [(u0, .inr (9, [.ref u1, .ref u2, .ref u3, .ref u4, .ref u5, .ref u6, .int (nI kn), .ref u7, .int (bB ik), .ref u8, .int (nI ty), .ref u9, .int (nI ta), .int (bB iw), .ref u10, .ref u11])), (u5, .inl ((TY D)[0].1, 208, .inl M))] (fun r_ w_ => r_ = some (.int (-5)) ∧ w_ = [(u0, .inr (9, [.ref u1, .ref u2, .ref u3, .ref u4, .ref u5, .ref u6, .int (nI kn), .ref u7, .int (bB ik), .ref u8, .int (nI ty), .ref u9, .int (nI ta), .int (bB iw), .ref u10, .ref u11])), (u5, .inl ((TY D)[0].1, 208, .inl M))]) 0 0 := by
  refine CM_int (own := RX9) (cc := cX9_clamp) (maxL := 3) (L0 := [(0, .ref u0), (1, .int (nI x)), (2, .int (nI y))]) (by decide) rfl rfl (Nat.le_of_ble_eq_true rfl) rfl (fun X O E => ?_)
  have hkl := (fdB_some.mp hd).1
  refine g_iload_n O dX9_clamp_0 1 rfl rfl ?_
  refine g_iload_n O dX9_clamp_1 2 rfl rfl ?_
  refine g_callS (As := [.int (nI x), .int (nI y)]) (wr := [(u0, .inr (9, [.ref u1, .ref u2, .ref u3, .ref u4, .ref u5, .ref u6, .int (nI kn), .ref u7, .int (bB ik), .ref u8, .int (nI ty), .ref u9, .int (nI ta), .int (bB iw), .ref u10, .ref u11])), (u5, .inl ((TY D)[0].1, 208, .inl M))]) O (kX9_isOn l D z (nI x) (nI y) ) gX9_clamp_X9_isOn rfl rfl rfl 2 (by decide +kernel) (by decide) (by decide) [] [0, 1] rfl (by decide) rfl (by decide) (by decide) rfl rfl (Nat.le_of_ble_eq_true rfl) dX9_clamp_2 (fun r_1 w_2 hp => ?_)
  obtain ⟨rfl, rfl⟩ := hp
  refine g_eq (st' := [.int (bB (rgB (nI x) 12 && rgB (nI y) 12))]) (ws' := [(u0, .inr (9, [.ref u1, .ref u2, .ref u3, .ref u4, .ref u5, .ref u6, .int (nI kn), .ref u7, .int (bB ik), .ref u8, .int (nI ty), .ref u9, .int (nI ta), .int (bB iw), .ref u10, .ref u11])), (u5, .inl ((TY D)[0].1, 208, .inl M))]) rfl rfl rfl ?_
  refine g_if_neB (tgt := 10) O dX9_clamp_5 (by decide) (fun c_3 => ?_) (fun c_3 => absurd c_3 (by rw [rgB_t hx (by decide), rgB_t hy (by decide)]; decide))
  refine g_aload_n O dX9_clamp_10 0 rfl rfl ?_
  refine g_get O hiX9_clamp_X9 0 rfl rfl 4 (by decide) (by decide +kernel) rfl dX9_clamp_11 ?_
  refine g_sipush (x := (nI 154)) O dX9_clamp_14 (by decide +kernel) ?_
  refine g_ialdN O 1 rfl (by omega) (by omega) dX9_clamp_17 ?_
  refine g_eq (st' := [.int (nI (sv_nc s))]) (by rw [RM_nc hM]) rfl rfl ?_
  refine g_iconst (x := (nI 4)) O dX9_clamp_18 (by decide +kernel) ?_
  refine g_icmp_neN (tgt := 25) O (by omega) (by omega) dX9_clamp_19 (by decide) (fun c_4 => ?_) (fun c_4 => absurd c_4 (by omega))
  refine g_aload_n O dX9_clamp_25 0 rfl rfl ?_
  refine g_bipush (x := (nI 12)) O dX9_clamp_26 (by decide +kernel) ?_
  refine g_iload_n O dX9_clamp_28 2 rfl rfl ?_
  refine g_imulN O dX9_clamp_29 ?_
  refine g_iload_n O dX9_clamp_30 1 rfl rfl ?_
  refine g_iaddN O dX9_clamp_31 ?_
  refine g_callV (As := [.int (nI ((12 * y) + x))]) (wr := []) O (kX9_clampOn l D z u0 u1 u2 u3 u4 u5 u6 u7 u8 u9 u10 u11 kn ik ty ta iw M s ((12 * y) + x) (by first | assumption | omega) (by first | assumption | omega) (by first | assumption | omega) (by first | assumption | omega)) gX9_clamp_X9_clampOn rfl rfl rfl 1 (by decide +kernel) (by decide) (by decide) (q0 := 0) rfl rfl rfl [0, 1] [] rfl (by decide) rfl (by decide) (by decide) rfl rfl (Nat.le_of_ble_eq_true rfl) dX9_clamp_32 (fun r_5 w_6 hp => ?_)
  obtain ⟨rfl, rfl⟩ := hp
  refine g_eq (st' := [.int (orN (fdB (fun j => decide (12 * sv_cr s j + sv_cc s j = ((12 * y) + x))) (sv_nc s)))]) (ws' := [(u0, .inr (9, [.ref u1, .ref u2, .ref u3, .ref u4, .ref u5, .ref u6, .int (nI kn), .ref u7, .int (bB ik), .ref u8, .int (nI ty), .ref u9, .int (nI ta), .int (bB iw), .ref u10, .ref u11])), (u5, .inl ((TY D)[0].1, 208, .inl M))]) rfl rfl rfl ?_
  refine g_eq (st' := [.int (nI k)]) (by rw [hd]; rfl) rfl rfl ?_
  refine g_bipush (x := (-5)) O dX9_clamp_35 (by decide +kernel) ?_
  refine g_icmp_eq (tgt := 43) O dX9_clamp_37 (by decide) (fun c_7 => (by exfalso; have h2 := (nI_toInt (n := k) (by omega)).symm.trans (congrArg Int32.toInt c_7); have h3 : (-5 : Int32).toInt = -5 := by decide +kernel; rw [h3] at h2; omega)) (fun c_7 => ?_)
  refine g_bipush (x := (-5)) O dX9_clamp_40 (by decide +kernel) ?_
  exact E 42 _ (-5) _ dX9_clamp_42 ⟨rfl, rfl⟩

set_option maxHeartbeats 4000000 in
set_option maxRecDepth 100000 in
theorem kX9_clamp_ok (l : Launch) (D : va_G) (z : Nat × Nat × Nat) (u0 : Nat) (u1 : Nat) (u2 : Nat) (u3 : Nat) (u4 : Nat) (u5 : Nat) (u6 : Nat) (u7 : Nat) (u8 : Nat) (u9 : Nat) (u10 : Nat) (u11 : Nat) (kn : Nat) (ik : Bool) (ty : Nat) (ta : Nat) (iw : Bool) (M : Nat → Int32) (Bf : Nat → Int32) (s : SV) (x : Nat) (y : Nat) (hM : RM M s) (hkn : kn ≤ 4) (hx : x < 12) (hy : y < 12) (hnc : sv_nc s ≤ 4) (hcc : ∀ j, j < sv_nc s → sv_cc s j < 12 ∧ sv_cr s j < 12) (hb : sv_nc s < 4) (hd : (fdB (fun j => decide (12 * sv_cr s j + sv_cc s j = 12 * y + x)) (sv_nc s)) = none) : CM l yX9_clamp wsX9_clamp ({ frames := 2, cells := 0, slots := 0, locals := 43 } : Room) D z [.ref u0, .int (nI x), .int (nI y)] [(u0, .inr (9, [.ref u1, .ref u2, .ref u3, .ref u4, .ref u5, .ref u6, .int (nI kn), .ref u7, .int (bB ik), .ref u8, .int (nI ty), .ref u9, .int (nI ta), .int (bB iw), .ref u10, .ref u11])), (u5, .inl ((TY D)[0].1, 208, .inl M)), (u6, .inl ((TY D)[0].1, 832, .inl Bf))] (fun r_ w_ => ∃ (M9 : Nat → Int32), (RM M9 (mkS (sv_g s) (upf (sv_cc s) (sv_nc s) x) (upf (sv_cr s) (sv_nc s) y) (sv_nc s + 1) (sv_se s) (sv_fs s) (sv_fa s) (sv_fk s) (sv_ps s) (sv_la s) (sv_st s) (sv_sw s) (sv_fl s) (sv_sk s) (sv_mu s))) ∧ r_ = some (.int (nI (sv_nc s + 1))) ∧ w_ = [(u0, .inr (9, [.ref u1, .ref u2, .ref u3, .ref u4, .ref u5, .ref u6, .int (nI (rhN kn)), .ref u7, .int (bB ik), .ref u8, .int (nI ty), .ref u9, .int (nI ta), .int (bB iw), .ref u10, .ref u11])), (u5, .inl ((TY D)[0].1, 208, .inl M9)), (u6, .inl ((TY D)[0].1, 832, .inl (kwF Bf M kn)))]) 0 0 := by
  refine CM_int (own := RX9) (cc := cX9_clamp) (maxL := 3) (L0 := [(0, .ref u0), (1, .int (nI x)), (2, .int (nI y))]) (by decide) rfl rfl (Nat.le_of_ble_eq_true rfl) rfl (fun X O E => ?_)
  refine g_iload_n O dX9_clamp_0 1 rfl rfl ?_
  refine g_iload_n O dX9_clamp_1 2 rfl rfl ?_
  refine g_callS (As := [.int (nI x), .int (nI y)]) (wr := [(u0, .inr (9, [.ref u1, .ref u2, .ref u3, .ref u4, .ref u5, .ref u6, .int (nI kn), .ref u7, .int (bB ik), .ref u8, .int (nI ty), .ref u9, .int (nI ta), .int (bB iw), .ref u10, .ref u11])), (u5, .inl ((TY D)[0].1, 208, .inl M)), (u6, .inl ((TY D)[0].1, 832, .inl Bf))]) O (kX9_isOn l D z (nI x) (nI y) ) gX9_clamp_X9_isOn rfl rfl rfl 2 (by decide +kernel) (by decide) (by decide) [] [0, 1, 2] rfl (by decide) rfl (by decide) (by decide) rfl rfl (Nat.le_of_ble_eq_true rfl) dX9_clamp_2 (fun r_1 w_2 hp => ?_)
  obtain ⟨rfl, rfl⟩ := hp
  refine g_eq (st' := [.int (bB (rgB (nI x) 12 && rgB (nI y) 12))]) (ws' := [(u0, .inr (9, [.ref u1, .ref u2, .ref u3, .ref u4, .ref u5, .ref u6, .int (nI kn), .ref u7, .int (bB ik), .ref u8, .int (nI ty), .ref u9, .int (nI ta), .int (bB iw), .ref u10, .ref u11])), (u5, .inl ((TY D)[0].1, 208, .inl M)), (u6, .inl ((TY D)[0].1, 832, .inl Bf))]) rfl rfl rfl ?_
  refine g_if_neB (tgt := 10) O dX9_clamp_5 (by decide) (fun c_3 => ?_) (fun c_3 => absurd c_3 (by rw [rgB_t hx (by decide), rgB_t hy (by decide)]; decide))
  refine g_aload_n O dX9_clamp_10 0 rfl rfl ?_
  refine g_get O hiX9_clamp_X9 0 rfl rfl 4 (by decide) (by decide +kernel) rfl dX9_clamp_11 ?_
  refine g_sipush (x := (nI 154)) O dX9_clamp_14 (by decide +kernel) ?_
  refine g_ialdN O 1 rfl (by omega) (by omega) dX9_clamp_17 ?_
  refine g_eq (st' := [.int (nI (sv_nc s))]) (by rw [RM_nc hM]) rfl rfl ?_
  refine g_iconst (x := (nI 4)) O dX9_clamp_18 (by decide +kernel) ?_
  refine g_icmp_neN (tgt := 25) O (by omega) (by omega) dX9_clamp_19 (by decide) (fun c_4 => ?_) (fun c_4 => absurd c_4 (by omega))
  refine g_aload_n O dX9_clamp_25 0 rfl rfl ?_
  refine g_bipush (x := (nI 12)) O dX9_clamp_26 (by decide +kernel) ?_
  refine g_iload_n O dX9_clamp_28 2 rfl rfl ?_
  refine g_imulN O dX9_clamp_29 ?_
  refine g_iload_n O dX9_clamp_30 1 rfl rfl ?_
  refine g_iaddN O dX9_clamp_31 ?_
  refine g_callV (As := [.int (nI ((12 * y) + x))]) (wr := [(u6, .inl ((TY D)[0].1, 832, .inl Bf))]) O (kX9_clampOn l D z u0 u1 u2 u3 u4 u5 u6 u7 u8 u9 u10 u11 kn ik ty ta iw M s ((12 * y) + x) (by first | assumption | omega) (by first | assumption | omega) (by first | assumption | omega) (by first | assumption | omega)) gX9_clamp_X9_clampOn rfl rfl rfl 1 (by decide +kernel) (by decide) (by decide) (q0 := 0) rfl rfl rfl [0, 1] [2] rfl (by decide) rfl (by decide) (by decide) rfl rfl (Nat.le_of_ble_eq_true rfl) dX9_clamp_32 (fun r_5 w_6 hp => ?_)
  obtain ⟨rfl, rfl⟩ := hp
  refine g_eq (st' := [.int (orN (fdB (fun j => decide (12 * sv_cr s j + sv_cc s j = ((12 * y) + x))) (sv_nc s)))]) (ws' := [(u6, .inl ((TY D)[0].1, 832, .inl Bf)), (u0, .inr (9, [.ref u1, .ref u2, .ref u3, .ref u4, .ref u5, .ref u6, .int (nI kn), .ref u7, .int (bB ik), .ref u8, .int (nI ty), .ref u9, .int (nI ta), .int (bB iw), .ref u10, .ref u11])), (u5, .inl ((TY D)[0].1, 208, .inl M))]) rfl rfl rfl ?_
  refine g_eq (st' := [.int (-5)]) (by rw [hd]; rfl) rfl rfl ?_
  refine g_bipush (x := (-5)) O dX9_clamp_35 (by decide +kernel) ?_
  refine g_icmp_eq (tgt := 43) O dX9_clamp_37 (by decide) (fun c_7 => ?_) (fun c_7 => absurd c_7 (fun h => h rfl))
  refine g_aload_n O dX9_clamp_43 0 rfl rfl ?_
  refine g_callV (As := []) (wr := []) O (kX9_know l D z u0 u1 u2 u3 u4 u5 u6 u7 u8 u9 u10 u11 kn ik ty ta iw M Bf (by first | assumption | omega)) gX9_clamp_X9_know rfl rfl rfl 0 (by decide +kernel) (by decide) (by decide) (q0 := 0) rfl rfl rfl [1, 2, 0] [] rfl (by decide) rfl (by decide) (by decide) rfl rfl (Nat.le_of_ble_eq_true rfl) dX9_clamp_44 (fun r_8 w_9 hp => ?_)
  obtain ⟨rfl, rfl⟩ := hp
  refine g_eq (st' := []) (ws' := [(u0, .inr (9, [.ref u1, .ref u2, .ref u3, .ref u4, .ref u5, .ref u6, .int (nI (rhN kn)), .ref u7, .int (bB ik), .ref u8, .int (nI ty), .ref u9, .int (nI ta), .int (bB iw), .ref u10, .ref u11])), (u5, .inl ((TY D)[0].1, 208, .inl M)), (u6, .inl ((TY D)[0].1, 832, .inl (kwF Bf M kn)))]) rfl rfl rfl ?_
  refine g_aload_n O dX9_clamp_47 0 rfl rfl ?_
  refine g_get O hiX9_clamp_X9 0 rfl rfl 4 (by decide) (by decide +kernel) rfl dX9_clamp_48 ?_
  refine g_sipush (x := (nI 155)) O dX9_clamp_51 (by decide +kernel) ?_
  refine g_aload_n O dX9_clamp_54 0 rfl rfl ?_
  refine g_get O hiX9_clamp_X9 0 rfl rfl 4 (by decide) (by decide +kernel) rfl dX9_clamp_55 ?_
  refine g_sipush (x := (nI 154)) O dX9_clamp_58 (by decide +kernel) ?_
  refine g_ialdN O 1 rfl (by omega) (by omega) dX9_clamp_61 ?_
  refine g_eq (st' := [.int (nI (sv_nc s)), .int (nI 155), .ref u5]) (by rw [RM_nc hM]) rfl rfl ?_
  refine g_iaddN O dX9_clamp_62 ?_
  refine g_bipush (x := (nI 12)) O dX9_clamp_63 (by decide +kernel) ?_
  refine g_iload_n O dX9_clamp_65 2 rfl rfl ?_
  refine g_imulN O dX9_clamp_66 ?_
  refine g_iload_n O dX9_clamp_67 1 rfl rfl ?_
  refine g_iaddN O dX9_clamp_68 ?_
  refine g_iastN (f' := (upd M (155 + (sv_nc s)) (nI ((12 * y) + x)))) (ws' := [(u0, .inr (9, [.ref u1, .ref u2, .ref u3, .ref u4, .ref u5, .ref u6, .int (nI (rhN kn)), .ref u7, .int (bB ik), .ref u8, .int (nI ty), .ref u9, .int (nI ta), .int (bB iw), .ref u10, .ref u11])), (u5, .inl ((TY D)[0].1, 208, .inl (upd M (155 + (sv_nc s)) (nI ((12 * y) + x))))), (u6, .inl ((TY D)[0].1, 832, .inl (kwF Bf M kn)))]) O 1 rfl (by omega) (by omega) dX9_clamp_69 rfl rfl ?_
  have hM1 : RM (upd M (155 + (sv_nc s)) (nI ((12 * y) + x))) s := RM_stC hM (Nat.le_refl _) hb
  have hv : (upd M (155 + (sv_nc s)) (nI ((12 * y) + x))) (155 + sv_nc s) = nI ((12 * y) + x) := pk_us
  generalize (upd M (155 + (sv_nc s)) (nI ((12 * y) + x))) = M1 at hM1 hv ⊢
  refine g_aload_n O dX9_clamp_70 0 rfl rfl ?_
  refine g_get O hiX9_clamp_X9 0 rfl rfl 4 (by decide) (by decide +kernel) rfl dX9_clamp_71 ?_
  refine g_sipush (x := (nI 154)) O dX9_clamp_74 (by decide +kernel) ?_
  refine g_dup2 O dX9_clamp_77 rfl rfl ?_
  refine g_ialdN O 1 rfl (by omega) (by omega) dX9_clamp_78 ?_
  refine g_eq (st' := [.int (nI (sv_nc s)), .int (nI 154), .ref u5]) (by rw [RM_nc hM1]) rfl rfl ?_
  refine g_iconst (x := (nI 1)) O dX9_clamp_79 (by decide +kernel) ?_
  refine g_iaddN O dX9_clamp_80 ?_
  refine g_iastN (f' := (upd M1 154 (nI ((sv_nc s) + 1)))) (ws' := [(u0, .inr (9, [.ref u1, .ref u2, .ref u3, .ref u4, .ref u5, .ref u6, .int (nI (rhN kn)), .ref u7, .int (bB ik), .ref u8, .int (nI ty), .ref u9, .int (nI ta), .int (bB iw), .ref u10, .ref u11])), (u5, .inl ((TY D)[0].1, 208, .inl (upd M1 154 (nI ((sv_nc s) + 1))))), (u6, .inl ((TY D)[0].1, 832, .inl (kwF Bf M kn)))]) O 1 rfl (by omega) (by omega) dX9_clamp_81 rfl rfl ?_
  have hMf : RM (upd M1 154 (nI ((sv_nc s) + 1))) (s_cl s (upf (sv_cc s) (sv_nc s) x) (upf (sv_cr s) (sv_nc s) y) (sv_nc s + 1)) := RM_wnc hM1 hb hv
  generalize (upd M1 154 (nI ((sv_nc s) + 1))) = M2 at hMf ⊢
  refine g_aload_n O dX9_clamp_82 0 rfl rfl ?_
  refine g_get O hiX9_clamp_X9 0 rfl rfl 4 (by decide) (by decide +kernel) rfl dX9_clamp_83 ?_
  refine g_sipush (x := (nI 154)) O dX9_clamp_86 (by decide +kernel) ?_
  refine g_ialdN O 1 rfl (by omega) (by omega) dX9_clamp_89 ?_
  refine g_eq (st' := [.int (nI (sv_nc (s_cl s (upf (sv_cc s) (sv_nc s) x) (upf (sv_cr s) (sv_nc s) y) (sv_nc s + 1))))]) (by rw [RM_nc hMf]) rfl rfl ?_
  refine g_eq (st' := [.int (nI (sv_nc s + 1))]) rfl rfl rfl ?_
  exact E 90 _ (nI (sv_nc s + 1)) _ dX9_clamp_90 (⟨_, hMf, rfl, rfl⟩)

theorem hiX9_unclamp_X9 : ∀ w ∈ wsX90, w ∈ wsX9_unclamp := by decide +kernel
set_option maxHeartbeats 4000000 in
set_option maxRecDepth 100000 in
theorem kX9_unclamp_b1 (l : Launch) (D : va_G) (z : Nat × Nat × Nat) (u0 : Nat) (u1 : Nat) (u2 : Nat) (u3 : Nat) (u4 : Nat) (u5 : Nat) (u6 : Nat) (u7 : Nat) (u8 : Nat) (u9 : Nat) (u10 : Nat) (u11 : Nat) (kn : Nat) (ik : Bool) (ty : Nat) (ta : Nat) (iw : Bool) (M : Nat → Int32) (s : SV) (x : Int32) (hM : RM M s) (hnc : sv_nc s ≤ 4) (hb : rgB x (sv_nc s) = false) : CM l yX9_unclamp wsX9_unclamp ({ frames := 1, cells := 0, slots := 0, locals := 22 } : Room) D z [.ref u0, .int x] [(u0, .inr (9, [.ref u1, .ref u2, .ref u3, .ref u4, .ref u5, .ref u6, .int (nI kn), .ref u7, .int (bB ik), .ref u8, .int (nI ty), .ref u9, .int (nI ta), .int (bB iw), .ref u10, .ref u11])), (u5, .inl ((TY D)[0].1, 208, .inl M))] (fun r_ w_ => r_ = some (.int (-1)) ∧ w_ = [(u0, .inr (9, [.ref u1, .ref u2, .ref u3, .ref u4, .ref u5, .ref u6, .int (nI kn), .ref u7, .int (bB ik), .ref u8, .int (nI ty), .ref u9, .int (nI ta), .int (bB iw), .ref u10, .ref u11])), (u5, .inl ((TY D)[0].1, 208, .inl M))]) 0 0 := by
  refine CM_int (own := RX9) (cc := cX9_unclamp) (maxL := 3) (L0 := [(0, .ref u0), (1, .int x)]) (by decide) rfl rfl (Nat.le_of_ble_eq_true rfl) rfl (fun X O E => ?_)
  refine g_iload_n O dX9_unclamp_0 1 rfl rfl ?_
  refine g_iconst (x := (nI 0)) O dX9_unclamp_1 (by decide +kernel) ?_
  refine g_aload_n O dX9_unclamp_2 0 rfl rfl ?_
  refine g_get O hiX9_unclamp_X9 0 rfl rfl 4 (by decide) (by decide +kernel) rfl dX9_unclamp_3 ?_
  refine g_sipush (x := (nI 154)) O dX9_unclamp_6 (by decide +kernel) ?_
  refine g_ialdN O 1 rfl (by omega) (by omega) dX9_unclamp_9 ?_
  refine g_eq (st' := [.int (nI (sv_nc s)), .int (nI 0), .int x]) (by rw [RM_nc hM]) rfl rfl ?_
  refine g_iconst (x := (nI 1)) O dX9_unclamp_10 (by decide +kernel) ?_
  refine g_isub O dX9_unclamp_11 ?_
  refine g_callS (As := [.int x, .int (nI 0), .int ((nI (sv_nc s)) - (nI 1))]) (wr := [(u0, .inr (9, [.ref u1, .ref u2, .ref u3, .ref u4, .ref u5, .ref u6, .int (nI kn), .ref u7, .int (bB ik), .ref u8, .int (nI ty), .ref u9, .int (nI ta), .int (bB iw), .ref u10, .ref u11])), (u5, .inl ((TY D)[0].1, 208, .inl M))]) O (kX9_in l D z x (nI 0) ((nI (sv_nc s)) - (nI 1)) ) gX9_unclamp_X9_in rfl rfl rfl 3 (by decide +kernel) (by decide) (by decide) [] [0, 1] rfl (by decide) rfl (by decide) (by decide) rfl rfl (Nat.le_of_ble_eq_true rfl) dX9_unclamp_12 (fun r_1 w_2 hp => ?_)
  obtain ⟨rfl, rfl⟩ := hp
  refine g_eq (st' := [.int (bB (inI x (nI 0) ((nI (sv_nc s)) - (nI 1))))]) (ws' := [(u0, .inr (9, [.ref u1, .ref u2, .ref u3, .ref u4, .ref u5, .ref u6, .int (nI kn), .ref u7, .int (bB ik), .ref u8, .int (nI ty), .ref u9, .int (nI ta), .int (bB iw), .ref u10, .ref u11])), (u5, .inl ((TY D)[0].1, 208, .inl M))]) rfl rfl rfl ?_
  refine g_eq (st' := [.int (bB (rgB x (sv_nc s)))]) (by rw [inI_n1 _ hnc]) rfl rfl ?_
  refine g_if_neB (tgt := 20) O dX9_unclamp_15 (by decide) (fun c_3 => absurd c_3 (by rw [hb]; decide)) (fun c_3 => ?_)
  refine g_iconst (x := (-1)) O dX9_unclamp_18 (by decide +kernel) ?_
  exact E 19 _ (-1) _ dX9_unclamp_19 ⟨rfl, rfl⟩

set_option maxHeartbeats 4000000 in
set_option maxRecDepth 100000 in
theorem kX9_unclamp_ok (l : Launch) (D : va_G) (z : Nat × Nat × Nat) (u0 : Nat) (u1 : Nat) (u2 : Nat) (u3 : Nat) (u4 : Nat) (u5 : Nat) (u6 : Nat) (u7 : Nat) (u8 : Nat) (u9 : Nat) (u10 : Nat) (u11 : Nat) (kn : Nat) (ik : Bool) (ty : Nat) (ta : Nat) (iw : Bool) (M : Nat → Int32) (Bf : Nat → Int32) (s : SV) (d : Nat) (hM : RM M s) (hkn : kn ≤ 4) (hd : d < sv_nc s) (hnc : sv_nc s ≤ 4) : CM l yX9_unclamp wsX9_unclamp ({ frames := 1, cells := 0, slots := 0, locals := 22 } : Room) D z [.ref u0, .int (nI d)] [(u0, .inr (9, [.ref u1, .ref u2, .ref u3, .ref u4, .ref u5, .ref u6, .int (nI kn), .ref u7, .int (bB ik), .ref u8, .int (nI ty), .ref u9, .int (nI ta), .int (bB iw), .ref u10, .ref u11])), (u5, .inl ((TY D)[0].1, 208, .inl M)), (u6, .inl ((TY D)[0].1, 832, .inl Bf))] (fun r_ w_ => ∃ (M9 : Nat → Int32), (RM M9 (mkS (sv_g s) (drf (sv_cc s) d (sv_nc s - 1 - d)) (drf (sv_cr s) d (sv_nc s - 1 - d)) (sv_nc s - 1) (sv_se s) (sv_fs s) (sv_fa s) (sv_fk s) (sv_ps s) (sv_la s) (sv_st s) (sv_sw s) (sv_fl s) (sv_sk s) (sv_mu s))) ∧ r_ = some (.int (nI (sv_nc s - 1))) ∧ w_ = [(u0, .inr (9, [.ref u1, .ref u2, .ref u3, .ref u4, .ref u5, .ref u6, .int (nI (rhN kn)), .ref u7, .int (bB ik), .ref u8, .int (nI ty), .ref u9, .int (nI ta), .int (bB iw), .ref u10, .ref u11])), (u5, .inl ((TY D)[0].1, 208, .inl M9)), (u6, .inl ((TY D)[0].1, 832, .inl (kwF Bf M kn)))]) 0 0 := by
  refine CM_int (own := RX9) (cc := cX9_unclamp) (maxL := 3) (L0 := [(0, .ref u0), (1, .int (nI d))]) (by decide) rfl rfl (Nat.le_of_ble_eq_true rfl) rfl (fun X O E => ?_)
  refine g_iload_n O dX9_unclamp_0 1 rfl rfl ?_
  refine g_iconst (x := (nI 0)) O dX9_unclamp_1 (by decide +kernel) ?_
  refine g_aload_n O dX9_unclamp_2 0 rfl rfl ?_
  refine g_get O hiX9_unclamp_X9 0 rfl rfl 4 (by decide) (by decide +kernel) rfl dX9_unclamp_3 ?_
  refine g_sipush (x := (nI 154)) O dX9_unclamp_6 (by decide +kernel) ?_
  refine g_ialdN O 1 rfl (by omega) (by omega) dX9_unclamp_9 ?_
  refine g_eq (st' := [.int (nI (sv_nc s)), .int (nI 0), .int (nI d)]) (by rw [RM_nc hM]) rfl rfl ?_
  refine g_iconst (x := (nI 1)) O dX9_unclamp_10 (by decide +kernel) ?_
  refine g_isub O dX9_unclamp_11 ?_
  refine g_callS (As := [.int (nI d), .int (nI 0), .int ((nI (sv_nc s)) - (nI 1))]) (wr := [(u0, .inr (9, [.ref u1, .ref u2, .ref u3, .ref u4, .ref u5, .ref u6, .int (nI kn), .ref u7, .int (bB ik), .ref u8, .int (nI ty), .ref u9, .int (nI ta), .int (bB iw), .ref u10, .ref u11])), (u5, .inl ((TY D)[0].1, 208, .inl M)), (u6, .inl ((TY D)[0].1, 832, .inl Bf))]) O (kX9_in l D z (nI d) (nI 0) ((nI (sv_nc s)) - (nI 1)) ) gX9_unclamp_X9_in rfl rfl rfl 3 (by decide +kernel) (by decide) (by decide) [] [0, 1, 2] rfl (by decide) rfl (by decide) (by decide) rfl rfl (Nat.le_of_ble_eq_true rfl) dX9_unclamp_12 (fun r_1 w_2 hp => ?_)
  obtain ⟨rfl, rfl⟩ := hp
  refine g_eq (st' := [.int (bB (inI (nI d) (nI 0) ((nI (sv_nc s)) - (nI 1))))]) (ws' := [(u0, .inr (9, [.ref u1, .ref u2, .ref u3, .ref u4, .ref u5, .ref u6, .int (nI kn), .ref u7, .int (bB ik), .ref u8, .int (nI ty), .ref u9, .int (nI ta), .int (bB iw), .ref u10, .ref u11])), (u5, .inl ((TY D)[0].1, 208, .inl M)), (u6, .inl ((TY D)[0].1, 832, .inl Bf))]) rfl rfl rfl ?_
  refine g_eq (st' := [.int (bB (rgB (nI d) (sv_nc s)))]) (by rw [inI_n1 _ hnc]) rfl rfl ?_
  refine g_if_neB (tgt := 20) O dX9_unclamp_15 (by decide) (fun c_3 => ?_) (fun c_3 => absurd c_3 (by rw [rgB_t hd (by omega)]; decide))
  refine g_aload_n O dX9_unclamp_20 0 rfl rfl ?_
  refine g_callV (As := []) (wr := []) O (kX9_know l D z u0 u1 u2 u3 u4 u5 u6 u7 u8 u9 u10 u11 kn ik ty ta iw M Bf (by first | assumption | omega)) gX9_unclamp_X9_know rfl rfl rfl 0 (by decide +kernel) (by decide) (by decide) (q0 := 0) rfl rfl rfl [0, 1, 2] [] rfl (by decide) rfl (by decide) (by decide) rfl rfl (Nat.le_of_ble_eq_true rfl) dX9_unclamp_21 (fun r_4 w_5 hp => ?_)
  obtain ⟨rfl, rfl⟩ := hp
  refine g_eq (st' := []) (ws' := [(u0, .inr (9, [.ref u1, .ref u2, .ref u3, .ref u4, .ref u5, .ref u6, .int (nI (rhN kn)), .ref u7, .int (bB ik), .ref u8, .int (nI ty), .ref u9, .int (nI ta), .int (bB iw), .ref u10, .ref u11])), (u5, .inl ((TY D)[0].1, 208, .inl M)), (u6, .inl ((TY D)[0].1, 832, .inl (kwF Bf M kn)))]) rfl rfl rfl ?_
  refine g_aload_n O dX9_unclamp_24 0 rfl rfl ?_
  refine g_get O hiX9_unclamp_X9 0 rfl rfl 4 (by decide) (by decide +kernel) rfl dX9_unclamp_25 ?_
  refine g_sipush (x := (nI 154)) O dX9_unclamp_28 (by decide +kernel) ?_
  refine g_dup2 O dX9_unclamp_31 rfl rfl ?_
  refine g_ialdN O 1 rfl (by omega) (by omega) dX9_unclamp_32 ?_
  refine g_eq (st' := [.int (nI (sv_nc s)), .int (nI 154), .ref u5]) (by rw [RM_nc hM]) rfl rfl ?_
  refine g_iconst (x := (nI 1)) O dX9_unclamp_33 (by decide +kernel) ?_
  refine g_isubN O (by omega) dX9_unclamp_34 ?_
  refine g_iastN (f' := (upd M 154 (nI ((sv_nc s) - 1)))) (ws' := [(u0, .inr (9, [.ref u1, .ref u2, .ref u3, .ref u4, .ref u5, .ref u6, .int (nI (rhN kn)), .ref u7, .int (bB ik), .ref u8, .int (nI ty), .ref u9, .int (nI ta), .int (bB iw), .ref u10, .ref u11])), (u5, .inl ((TY D)[0].1, 208, .inl (upd M 154 (nI ((sv_nc s) - 1))))), (u6, .inl ((TY D)[0].1, 832, .inl (kwF Bf M kn)))]) O 1 rfl (by omega) (by omega) dX9_unclamp_35 rfl rfl ?_
  obtain ⟨M1, eM1⟩ : ∃ f, f = upd M 154 (nI ((sv_nc s) - 1)) := ⟨_, rfl⟩
  refine g_eq (ws' := [(u0, .inr (9, [.ref u1, .ref u2, .ref u3, .ref u4, .ref u5, .ref u6, .int (nI (rhN kn)), .ref u7, .int (bB ik), .ref u8, .int (nI ty), .ref u9, .int (nI ta), .int (bB iw), .ref u10, .ref u11])), (u5, .inl ((TY D)[0].1, 208, .inl M1)), (u6, .inl ((TY D)[0].1, 832, .inl (kwF Bf M kn)))]) rfl rfl (by rw [eM1]) ?_
  have h154 : M1 154 = nI (sv_nc s - 1) := by rw [eM1]; exact pk_us
  refine g_iload_n O dX9_unclamp_36 1 rfl rfl ?_
  refine g_istore_n (L' := [(0, .ref u0), (1, .int (nI d)), (2, .int (nI d))]) O dX9_unclamp_37 rfl (by decide) [1, 2, 0] rfl ?_
  have J38 : ∀ (n_ : Nat), ∀ (i_ : Nat) (F_ : Nat → Int32) (hi_ : d + i_ ≤ sv_nc s - 1) (hF : F_ = shf M1 (155 + d) 1 i_) (h154 : F_ 154 = nI (sv_nc s - 1)), 4 - i_ < n_ → G X 0 0 38 [(0, .ref u0), (1, .int (nI d)), (2, .int (nI (d + i_)))] [] [(u0, .inr (9, [.ref u1, .ref u2, .ref u3, .ref u4, .ref u5, .ref u6, .int (nI (rhN kn)), .ref u7, .int (bB ik), .ref u8, .int (nI ty), .ref u9, .int (nI ta), .int (bB iw), .ref u10, .ref u11])), (u5, .inl ((TY D)[0].1, 208, .inl F_)), (u6, .inl ((TY D)[0].1, 832, .inl (kwF Bf M kn)))] := by
    intro n_
    induction n_ with
    | zero => intro i_ F_ hi_ hF h154 hm_; exact absurd hm_ (Nat.not_lt_zero _)
    | succ n_ ih_ =>
      intro i_ F_ hi_ hF h154 hm_
      refine g_iload_n O dX9_unclamp_38 2 rfl rfl ?_
      refine g_aload_n O dX9_unclamp_39 0 rfl rfl ?_
      refine g_get O hiX9_unclamp_X9 0 rfl rfl 4 (by decide) (by decide +kernel) rfl dX9_unclamp_40 ?_
      refine g_sipush (x := (nI 154)) O dX9_unclamp_43 (by decide +kernel) ?_
      refine g_ialdN O 1 rfl (by omega) (by omega) dX9_unclamp_46 ?_
      refine g_eq (st' := [.int (nI (sv_nc s - 1)), .int (nI (d + i_))]) (by rw [h154]) rfl rfl ?_
      refine g_icmp_geN (tgt := 78) O (by omega) (by omega) dX9_unclamp_47 (by decide) (fun c_6 => ?_) (fun c_6 => ?_)
      ·
        obtain rfl : i_ = sv_nc s - 1 - d := by omega
        refine g_aload_n O dX9_unclamp_78 0 rfl rfl ?_
        refine g_get O hiX9_unclamp_X9 0 rfl rfl 4 (by decide) (by decide +kernel) rfl dX9_unclamp_79 ?_
        refine g_sipush (x := (nI 154)) O dX9_unclamp_82 (by decide +kernel) ?_
        refine g_ialdN O 1 rfl (by omega) (by omega) dX9_unclamp_85 ?_
        refine g_eq (st' := [.int (nI (sv_nc s - 1))]) (by rw [h154]) rfl rfl ?_
        exact E 86 _ (nI (sv_nc s - 1)) _ dX9_unclamp_86 (⟨_, (by rw [hF, eM1]; exact RM_drop hM hd hnc), rfl, rfl⟩)
      ·
        refine g_aload_n O dX9_unclamp_50 0 rfl rfl ?_
        refine g_get O hiX9_unclamp_X9 0 rfl rfl 4 (by decide) (by decide +kernel) rfl dX9_unclamp_51 ?_
        refine g_sipush (x := (nI 155)) O dX9_unclamp_54 (by decide +kernel) ?_
        refine g_iload_n O dX9_unclamp_57 2 rfl rfl ?_
        refine g_iaddN O dX9_unclamp_58 ?_
        refine g_aload_n O dX9_unclamp_59 0 rfl rfl ?_
        refine g_get O hiX9_unclamp_X9 0 rfl rfl 4 (by decide) (by decide +kernel) rfl dX9_unclamp_60 ?_
        refine g_sipush (x := (nI 155)) O dX9_unclamp_63 (by decide +kernel) ?_
        refine g_iload_n O dX9_unclamp_66 2 rfl rfl ?_
        refine g_iaddN O dX9_unclamp_67 ?_
        refine g_iconst (x := (nI 1)) O dX9_unclamp_68 (by decide +kernel) ?_
        refine g_iaddN O dX9_unclamp_69 ?_
        refine g_ialdN O 1 rfl (by omega) (by omega) dX9_unclamp_70 ?_
        refine g_iastN (f' := (upd F_ (155 + (d + i_)) (F_ ((155 + (d + i_)) + 1)))) (ws' := [(u0, .inr (9, [.ref u1, .ref u2, .ref u3, .ref u4, .ref u5, .ref u6, .int (nI (rhN kn)), .ref u7, .int (bB ik), .ref u8, .int (nI ty), .ref u9, .int (nI ta), .int (bB iw), .ref u10, .ref u11])), (u5, .inl ((TY D)[0].1, 208, .inl (upd F_ (155 + (d + i_)) (F_ ((155 + (d + i_)) + 1))))), (u6, .inl ((TY D)[0].1, 832, .inl (kwF Bf M kn)))]) O 1 rfl (by omega) (by omega) dX9_unclamp_71 rfl rfl ?_
        refine g_iincN (L' := [(0, .ref u0), (1, .int (nI d)), (2, .int (nI (d + i_ + 1)))]) O dX9_unclamp_72 2 rfl (by decide) [1, 2, 0] rfl ?_
        refine g_goto (tgt := 38) O dX9_unclamp_75 (by decide) ?_
        exact ih_ (i_ + 1) _ (by first | assumption | omega | rfl) (by rw [hF]; exact shf_s M1 (155 + d) 1 i_ (by omega)) (by rw [pk_un (by omega)]; exact h154) (by omega)
  exact J38 _ 0 M1 (by omega) ((shf_0 _ _ _).symm) (by first | assumption | omega | rfl) (Nat.lt_succ_self _)

set_option maxHeartbeats 4000000 in
set_option maxRecDepth 100000 in
theorem kX9_set_b1 (l : Launch) (D : va_G) (z : Nat × Nat × Nat) (u0 : Nat) (u1 : Nat) (u2 : Nat) (u3 : Nat) (u4 : Nat) (u5 : Nat) (u6 : Nat) (u7 : Nat) (u8 : Nat) (u9 : Nat) (u10 : Nat) (u11 : Nat) (kn : Nat) (ik : Bool) (ty : Nat) (ta : Nat) (iw : Bool) (w : Int32) (x : Int32) (hb : rgB w 4 = false) : CM l yX9_set wsX9_set ({ frames := 1, cells := 0, slots := 0, locals := 22 } : Room) D z [.ref u0, .int w, .int x] [(u0, .inr (9, [.ref u1, .ref u2, .ref u3, .ref u4, .ref u5, .ref u6, .int (nI kn), .ref u7, .int (bB ik), .ref u8, .int (nI ty), .ref u9, .int (nI ta), .int (bB iw), .ref u10, .ref u11]))] (fun r_ w_ => r_ = some (.int (-2)) ∧ w_ = [(u0, .inr (9, [.ref u1, .ref u2, .ref u3, .ref u4, .ref u5, .ref u6, .int (nI kn), .ref u7, .int (bB ik), .ref u8, .int (nI ty), .ref u9, .int (nI ta), .int (bB iw), .ref u10, .ref u11]))]) 0 0 := by
  refine CM_int (own := RX9) (cc := cX9_set) (maxL := 6) (L0 := [(0, .ref u0), (1, .int w), (2, .int x)]) (by decide) rfl rfl (Nat.le_of_ble_eq_true rfl) rfl (fun X O E => ?_)
  refine g_iload_n O dX9_set_0 1 rfl rfl ?_
  refine g_iconst (x := (nI 1)) O dX9_set_1 (by decide +kernel) ?_
  refine g_icmp_ne (tgt := 9) O dX9_set_2 (by decide) (fun c_1 => ?_) (fun c_1 => absurd c_1 (fun h => by rw [h] at hb; revert hb; decide))
  refine g_iload_n O dX9_set_9 1 rfl rfl ?_
  refine g_iconst (x := (nI 3)) O dX9_set_10 (by decide +kernel) ?_
  refine g_icmp_ne (tgt := 19) O dX9_set_11 (by decide) (fun c_2 => ?_) (fun c_2 => absurd c_2 (fun h => by rw [h] at hb; revert hb; decide))
  refine g_iconst (x := (nI 0)) O dX9_set_19 (by decide +kernel) ?_
  refine g_istore_n (L' := [(0, .ref u0), (1, .int w), (2, .int x), (3, .int (nI 0))]) O dX9_set_20 rfl (by decide) [1, 2, 3, 0] rfl ?_
  refine g_iload_n O dX9_set_21 1 rfl rfl ?_
  refine g_iconst (x := (nI 1)) O dX9_set_22 (by decide +kernel) ?_
  refine g_icmp_ne (tgt := 32) O dX9_set_23 (by decide) (fun c_3 => ?_) (fun c_3 => absurd c_3 (fun h => by rw [h] at hb; revert hb; decide))
  refine g_iload_n O dX9_set_32 1 rfl rfl ?_
  refine g_iconst (x := (nI 3)) O dX9_set_33 (by decide +kernel) ?_
  refine g_icmp_ne (tgt := 43) O dX9_set_34 (by decide) (fun c_4 => ?_) (fun c_4 => absurd c_4 (fun h => by rw [h] at hb; revert hb; decide))
  refine g_bipush (x := (nI 60)) O dX9_set_43 (by decide +kernel) ?_
  refine g_istore (L' := [(0, .ref u0), (1, .int w), (2, .int x), (3, .int (nI 0)), (4, .int (nI 60))]) O dX9_set_45 (by decide) [1, 2, 3, 4, 0] rfl ?_
  refine g_iload_n O dX9_set_47 1 rfl rfl ?_
  refine g_iconst (x := (nI 0)) O dX9_set_48 (by decide +kernel) ?_
  refine g_iconst (x := (nI 3)) O dX9_set_49 (by decide +kernel) ?_
  refine g_callS (As := [.int w, .int (nI 0), .int (nI 3)]) (wr := [(u0, .inr (9, [.ref u1, .ref u2, .ref u3, .ref u4, .ref u5, .ref u6, .int (nI kn), .ref u7, .int (bB ik), .ref u8, .int (nI ty), .ref u9, .int (nI ta), .int (bB iw), .ref u10, .ref u11]))]) O (kX9_in l D z w (nI 0) (nI 3) ) gX9_set_X9_in rfl rfl rfl 3 (by decide +kernel) (by decide) (by decide) [] [0] rfl (by decide) rfl (by decide) (by decide) rfl rfl (Nat.le_of_ble_eq_true rfl) dX9_set_50 (fun r_5 w_6 hp => ?_)
  obtain ⟨rfl, rfl⟩ := hp
  refine g_eq (st' := [.int (bB (inI w (nI 0) (nI 3)))]) (ws' := [(u0, .inr (9, [.ref u1, .ref u2, .ref u3, .ref u4, .ref u5, .ref u6, .int (nI kn), .ref u7, .int (bB ik), .ref u8, .int (nI ty), .ref u9, .int (nI ta), .int (bB iw), .ref u10, .ref u11]))]) rfl rfl rfl ?_
  refine g_eq (st' := [.int (bB (rgB w 4))]) (by rw [inI_r _ (by decide)]) rfl rfl ?_
  refine g_if_eqB (tgt := 66) O dX9_set_53 (by decide) (fun c_7 => ?_) (fun c_7 => absurd c_7 hb)
  refine g_bipush (x := (-2)) O dX9_set_66 (by decide +kernel) ?_
  exact E 68 _ (-2) _ dX9_set_68 ⟨rfl, rfl⟩

set_option maxHeartbeats 4000000 in
set_option maxRecDepth 100000 in
theorem kX9_set_b2 (l : Launch) (D : va_G) (z : Nat × Nat × Nat) (u0 : Nat) (u1 : Nat) (u2 : Nat) (u3 : Nat) (u4 : Nat) (u5 : Nat) (u6 : Nat) (u7 : Nat) (u8 : Nat) (u9 : Nat) (u10 : Nat) (u11 : Nat) (kn : Nat) (ik : Bool) (ty : Nat) (ta : Nat) (iw : Bool) (w : Nat) (x : Int32) (hw : w < 4) (hb : x < zL w ∨ zM w < x) : CM l yX9_set wsX9_set ({ frames := 1, cells := 0, slots := 0, locals := 22 } : Room) D z [.ref u0, .int (nI w), .int x] [(u0, .inr (9, [.ref u1, .ref u2, .ref u3, .ref u4, .ref u5, .ref u6, .int (nI kn), .ref u7, .int (bB ik), .ref u8, .int (nI ty), .ref u9, .int (nI ta), .int (bB iw), .ref u10, .ref u11]))] (fun r_ w_ => r_ = some (.int (-2)) ∧ w_ = [(u0, .inr (9, [.ref u1, .ref u2, .ref u3, .ref u4, .ref u5, .ref u6, .int (nI kn), .ref u7, .int (bB ik), .ref u8, .int (nI ty), .ref u9, .int (nI ta), .int (bB iw), .ref u10, .ref u11]))]) 0 0 := by
  refine CM_int (own := RX9) (cc := cX9_set) (maxL := 6) (L0 := [(0, .ref u0), (1, .int (nI w)), (2, .int x)]) (by decide) rfl rfl (Nat.le_of_ble_eq_true rfl) rfl (fun X O E => ?_)
  rcases (show w = 0 ∨ w = 1 ∨ w = 2 ∨ w = 3 by omega) with rfl | rfl | rfl | rfl
  ·
    refine g_iload_n O dX9_set_0 1 rfl rfl ?_
    refine g_iconst (x := (nI 1)) O dX9_set_1 (by decide +kernel) ?_
    refine g_icmp_neN (tgt := 9) O (by omega) (by omega) dX9_set_2 (by decide) (fun c_1 => ?_) (fun c_1 => absurd c_1 (by decide))
    refine g_iload_n O dX9_set_9 1 rfl rfl ?_
    refine g_iconst (x := (nI 3)) O dX9_set_10 (by decide +kernel) ?_
    refine g_icmp_neN (tgt := 19) O (by omega) (by omega) dX9_set_11 (by decide) (fun c_2 => ?_) (fun c_2 => absurd c_2 (by decide))
    refine g_iconst (x := (nI 0)) O dX9_set_19 (by decide +kernel) ?_
    refine g_istore_n (L' := [(0, .ref u0), (1, .int (nI 0)), (2, .int x), (3, .int (nI 0))]) O dX9_set_20 rfl (by decide) [1, 2, 3, 0] rfl ?_
    refine g_iload_n O dX9_set_21 1 rfl rfl ?_
    refine g_iconst (x := (nI 1)) O dX9_set_22 (by decide +kernel) ?_
    refine g_icmp_neN (tgt := 32) O (by omega) (by omega) dX9_set_23 (by decide) (fun c_3 => ?_) (fun c_3 => absurd c_3 (by decide))
    refine g_iload_n O dX9_set_32 1 rfl rfl ?_
    refine g_iconst (x := (nI 3)) O dX9_set_33 (by decide +kernel) ?_
    refine g_icmp_neN (tgt := 43) O (by omega) (by omega) dX9_set_34 (by decide) (fun c_4 => ?_) (fun c_4 => absurd c_4 (by decide))
    refine g_bipush (x := (nI 60)) O dX9_set_43 (by decide +kernel) ?_
    refine g_istore (L' := [(0, .ref u0), (1, .int (nI 0)), (2, .int x), (3, .int (nI 0)), (4, .int (nI 60))]) O dX9_set_45 (by decide) [1, 2, 3, 4, 0] rfl ?_
    refine g_iload_n O dX9_set_47 1 rfl rfl ?_
    refine g_iconst (x := (nI 0)) O dX9_set_48 (by decide +kernel) ?_
    refine g_iconst (x := (nI 3)) O dX9_set_49 (by decide +kernel) ?_
    refine g_callS (As := [.int (nI 0), .int (nI 0), .int (nI 3)]) (wr := [(u0, .inr (9, [.ref u1, .ref u2, .ref u3, .ref u4, .ref u5, .ref u6, .int (nI kn), .ref u7, .int (bB ik), .ref u8, .int (nI ty), .ref u9, .int (nI ta), .int (bB iw), .ref u10, .ref u11]))]) O (kX9_in l D z (nI 0) (nI 0) (nI 3) ) gX9_set_X9_in rfl rfl rfl 3 (by decide +kernel) (by decide) (by decide) [] [0] rfl (by decide) rfl (by decide) (by decide) rfl rfl (Nat.le_of_ble_eq_true rfl) dX9_set_50 (fun r_5 w_6 hp => ?_)
    obtain ⟨rfl, rfl⟩ := hp
    refine g_eq (st' := [.int (bB (inI (nI 0) (nI 0) (nI 3)))]) (ws' := [(u0, .inr (9, [.ref u1, .ref u2, .ref u3, .ref u4, .ref u5, .ref u6, .int (nI kn), .ref u7, .int (bB ik), .ref u8, .int (nI ty), .ref u9, .int (nI ta), .int (bB iw), .ref u10, .ref u11]))]) rfl rfl rfl ?_
    refine g_eq (st' := [.int (bB (rgB (nI 0) 4))]) (by rw [inI_r _ (by decide)]) rfl rfl ?_
    refine g_if_eqB (tgt := 66) O dX9_set_53 (by decide) (fun c_7 => absurd c_7 (by decide)) (fun c_7 => ?_)
    refine g_iload_n O dX9_set_56 2 rfl rfl ?_
    refine g_iload_n O dX9_set_57 3 rfl rfl ?_
    refine g_iload O dX9_set_58 4 rfl ?_
    refine g_callS (As := [.int x, .int (nI 0), .int (nI 60)]) (wr := [(u0, .inr (9, [.ref u1, .ref u2, .ref u3, .ref u4, .ref u5, .ref u6, .int (nI kn), .ref u7, .int (bB ik), .ref u8, .int (nI ty), .ref u9, .int (nI ta), .int (bB iw), .ref u10, .ref u11]))]) O (kX9_in l D z x (nI 0) (nI 60) ) gX9_set_X9_in rfl rfl rfl 3 (by decide +kernel) (by decide) (by decide) [] [0] rfl (by decide) rfl (by decide) (by decide) rfl rfl (Nat.le_of_ble_eq_true rfl) dX9_set_60 (fun r_8 w_9 hp => ?_)
    obtain ⟨rfl, rfl⟩ := hp
    refine g_eq (st' := [.int (bB (inI x (nI 0) (nI 60)))]) (ws' := [(u0, .inr (9, [.ref u1, .ref u2, .ref u3, .ref u4, .ref u5, .ref u6, .int (nI kn), .ref u7, .int (bB ik), .ref u8, .int (nI ty), .ref u9, .int (nI ta), .int (bB iw), .ref u10, .ref u11]))]) rfl rfl rfl ?_
    refine g_if_neB (tgt := 69) O dX9_set_63 (by decide) (fun c_10 => absurd c_10 (by rw [inI_f (by exact hb)]; decide)) (fun c_10 => ?_)
    refine g_bipush (x := (-2)) O dX9_set_66 (by decide +kernel) ?_
    exact E 68 _ (-2) _ dX9_set_68 ⟨rfl, rfl⟩
  ·
    refine g_iload_n O dX9_set_0 1 rfl rfl ?_
    refine g_iconst (x := (nI 1)) O dX9_set_1 (by decide +kernel) ?_
    refine g_icmp_neN (tgt := 9) O (by omega) (by omega) dX9_set_2 (by decide) (fun c_11 => absurd c_11 (by decide)) (fun c_11 => ?_)
    refine g_iconst (x := (nI 1)) O dX9_set_5 (by decide +kernel) ?_
    refine g_goto (tgt := 20) O dX9_set_6 (by decide) ?_
    refine g_istore_n (L' := [(0, .ref u0), (1, .int (nI 1)), (2, .int x), (3, .int (nI 1))]) O dX9_set_20 rfl (by decide) [1, 2, 3, 0] rfl ?_
    refine g_iload_n O dX9_set_21 1 rfl rfl ?_
    refine g_iconst (x := (nI 1)) O dX9_set_22 (by decide +kernel) ?_
    refine g_icmp_neN (tgt := 32) O (by omega) (by omega) dX9_set_23 (by decide) (fun c_12 => absurd c_12 (by decide)) (fun c_12 => ?_)
    refine g_sipush (x := (nI 150)) O dX9_set_26 (by decide +kernel) ?_
    refine g_goto (tgt := 45) O dX9_set_29 (by decide) ?_
    refine g_istore (L' := [(0, .ref u0), (1, .int (nI 1)), (2, .int x), (3, .int (nI 1)), (4, .int (nI 150))]) O dX9_set_45 (by decide) [1, 2, 3, 4, 0] rfl ?_
    refine g_iload_n O dX9_set_47 1 rfl rfl ?_
    refine g_iconst (x := (nI 0)) O dX9_set_48 (by decide +kernel) ?_
    refine g_iconst (x := (nI 3)) O dX9_set_49 (by decide +kernel) ?_
    refine g_callS (As := [.int (nI 1), .int (nI 0), .int (nI 3)]) (wr := [(u0, .inr (9, [.ref u1, .ref u2, .ref u3, .ref u4, .ref u5, .ref u6, .int (nI kn), .ref u7, .int (bB ik), .ref u8, .int (nI ty), .ref u9, .int (nI ta), .int (bB iw), .ref u10, .ref u11]))]) O (kX9_in l D z (nI 1) (nI 0) (nI 3) ) gX9_set_X9_in rfl rfl rfl 3 (by decide +kernel) (by decide) (by decide) [] [0] rfl (by decide) rfl (by decide) (by decide) rfl rfl (Nat.le_of_ble_eq_true rfl) dX9_set_50 (fun r_13 w_14 hp => ?_)
    obtain ⟨rfl, rfl⟩ := hp
    refine g_eq (st' := [.int (bB (inI (nI 1) (nI 0) (nI 3)))]) (ws' := [(u0, .inr (9, [.ref u1, .ref u2, .ref u3, .ref u4, .ref u5, .ref u6, .int (nI kn), .ref u7, .int (bB ik), .ref u8, .int (nI ty), .ref u9, .int (nI ta), .int (bB iw), .ref u10, .ref u11]))]) rfl rfl rfl ?_
    refine g_eq (st' := [.int (bB (rgB (nI 1) 4))]) (by rw [inI_r _ (by decide)]) rfl rfl ?_
    refine g_if_eqB (tgt := 66) O dX9_set_53 (by decide) (fun c_15 => absurd c_15 (by decide)) (fun c_15 => ?_)
    refine g_iload_n O dX9_set_56 2 rfl rfl ?_
    refine g_iload_n O dX9_set_57 3 rfl rfl ?_
    refine g_iload O dX9_set_58 4 rfl ?_
    refine g_callS (As := [.int x, .int (nI 1), .int (nI 150)]) (wr := [(u0, .inr (9, [.ref u1, .ref u2, .ref u3, .ref u4, .ref u5, .ref u6, .int (nI kn), .ref u7, .int (bB ik), .ref u8, .int (nI ty), .ref u9, .int (nI ta), .int (bB iw), .ref u10, .ref u11]))]) O (kX9_in l D z x (nI 1) (nI 150) ) gX9_set_X9_in rfl rfl rfl 3 (by decide +kernel) (by decide) (by decide) [] [0] rfl (by decide) rfl (by decide) (by decide) rfl rfl (Nat.le_of_ble_eq_true rfl) dX9_set_60 (fun r_16 w_17 hp => ?_)
    obtain ⟨rfl, rfl⟩ := hp
    refine g_eq (st' := [.int (bB (inI x (nI 1) (nI 150)))]) (ws' := [(u0, .inr (9, [.ref u1, .ref u2, .ref u3, .ref u4, .ref u5, .ref u6, .int (nI kn), .ref u7, .int (bB ik), .ref u8, .int (nI ty), .ref u9, .int (nI ta), .int (bB iw), .ref u10, .ref u11]))]) rfl rfl rfl ?_
    refine g_if_neB (tgt := 69) O dX9_set_63 (by decide) (fun c_18 => absurd c_18 (by rw [inI_f (by exact hb)]; decide)) (fun c_18 => ?_)
    refine g_bipush (x := (-2)) O dX9_set_66 (by decide +kernel) ?_
    exact E 68 _ (-2) _ dX9_set_68 ⟨rfl, rfl⟩
  ·
    refine g_iload_n O dX9_set_0 1 rfl rfl ?_
    refine g_iconst (x := (nI 1)) O dX9_set_1 (by decide +kernel) ?_
    refine g_icmp_neN (tgt := 9) O (by omega) (by omega) dX9_set_2 (by decide) (fun c_19 => ?_) (fun c_19 => absurd c_19 (by decide))
    refine g_iload_n O dX9_set_9 1 rfl rfl ?_
    refine g_iconst (x := (nI 3)) O dX9_set_10 (by decide +kernel) ?_
    refine g_icmp_neN (tgt := 19) O (by omega) (by omega) dX9_set_11 (by decide) (fun c_20 => ?_) (fun c_20 => absurd c_20 (by decide))
    refine g_iconst (x := (nI 0)) O dX9_set_19 (by decide +kernel) ?_
    refine g_istore_n (L' := [(0, .ref u0), (1, .int (nI 2)), (2, .int x), (3, .int (nI 0))]) O dX9_set_20 rfl (by decide) [1, 2, 3, 0] rfl ?_
    refine g_iload_n O dX9_set_21 1 rfl rfl ?_
    refine g_iconst (x := (nI 1)) O dX9_set_22 (by decide +kernel) ?_
    refine g_icmp_neN (tgt := 32) O (by omega) (by omega) dX9_set_23 (by decide) (fun c_21 => ?_) (fun c_21 => absurd c_21 (by decide))
    refine g_iload_n O dX9_set_32 1 rfl rfl ?_
    refine g_iconst (x := (nI 3)) O dX9_set_33 (by decide +kernel) ?_
    refine g_icmp_neN (tgt := 43) O (by omega) (by omega) dX9_set_34 (by decide) (fun c_22 => ?_) (fun c_22 => absurd c_22 (by decide))
    refine g_bipush (x := (nI 60)) O dX9_set_43 (by decide +kernel) ?_
    refine g_istore (L' := [(0, .ref u0), (1, .int (nI 2)), (2, .int x), (3, .int (nI 0)), (4, .int (nI 60))]) O dX9_set_45 (by decide) [1, 2, 3, 4, 0] rfl ?_
    refine g_iload_n O dX9_set_47 1 rfl rfl ?_
    refine g_iconst (x := (nI 0)) O dX9_set_48 (by decide +kernel) ?_
    refine g_iconst (x := (nI 3)) O dX9_set_49 (by decide +kernel) ?_
    refine g_callS (As := [.int (nI 2), .int (nI 0), .int (nI 3)]) (wr := [(u0, .inr (9, [.ref u1, .ref u2, .ref u3, .ref u4, .ref u5, .ref u6, .int (nI kn), .ref u7, .int (bB ik), .ref u8, .int (nI ty), .ref u9, .int (nI ta), .int (bB iw), .ref u10, .ref u11]))]) O (kX9_in l D z (nI 2) (nI 0) (nI 3) ) gX9_set_X9_in rfl rfl rfl 3 (by decide +kernel) (by decide) (by decide) [] [0] rfl (by decide) rfl (by decide) (by decide) rfl rfl (Nat.le_of_ble_eq_true rfl) dX9_set_50 (fun r_23 w_24 hp => ?_)
    obtain ⟨rfl, rfl⟩ := hp
    refine g_eq (st' := [.int (bB (inI (nI 2) (nI 0) (nI 3)))]) (ws' := [(u0, .inr (9, [.ref u1, .ref u2, .ref u3, .ref u4, .ref u5, .ref u6, .int (nI kn), .ref u7, .int (bB ik), .ref u8, .int (nI ty), .ref u9, .int (nI ta), .int (bB iw), .ref u10, .ref u11]))]) rfl rfl rfl ?_
    refine g_eq (st' := [.int (bB (rgB (nI 2) 4))]) (by rw [inI_r _ (by decide)]) rfl rfl ?_
    refine g_if_eqB (tgt := 66) O dX9_set_53 (by decide) (fun c_25 => absurd c_25 (by decide)) (fun c_25 => ?_)
    refine g_iload_n O dX9_set_56 2 rfl rfl ?_
    refine g_iload_n O dX9_set_57 3 rfl rfl ?_
    refine g_iload O dX9_set_58 4 rfl ?_
    refine g_callS (As := [.int x, .int (nI 0), .int (nI 60)]) (wr := [(u0, .inr (9, [.ref u1, .ref u2, .ref u3, .ref u4, .ref u5, .ref u6, .int (nI kn), .ref u7, .int (bB ik), .ref u8, .int (nI ty), .ref u9, .int (nI ta), .int (bB iw), .ref u10, .ref u11]))]) O (kX9_in l D z x (nI 0) (nI 60) ) gX9_set_X9_in rfl rfl rfl 3 (by decide +kernel) (by decide) (by decide) [] [0] rfl (by decide) rfl (by decide) (by decide) rfl rfl (Nat.le_of_ble_eq_true rfl) dX9_set_60 (fun r_26 w_27 hp => ?_)
    obtain ⟨rfl, rfl⟩ := hp
    refine g_eq (st' := [.int (bB (inI x (nI 0) (nI 60)))]) (ws' := [(u0, .inr (9, [.ref u1, .ref u2, .ref u3, .ref u4, .ref u5, .ref u6, .int (nI kn), .ref u7, .int (bB ik), .ref u8, .int (nI ty), .ref u9, .int (nI ta), .int (bB iw), .ref u10, .ref u11]))]) rfl rfl rfl ?_
    refine g_if_neB (tgt := 69) O dX9_set_63 (by decide) (fun c_28 => absurd c_28 (by rw [inI_f (by exact hb)]; decide)) (fun c_28 => ?_)
    refine g_bipush (x := (-2)) O dX9_set_66 (by decide +kernel) ?_
    exact E 68 _ (-2) _ dX9_set_68 ⟨rfl, rfl⟩
  ·
    refine g_iload_n O dX9_set_0 1 rfl rfl ?_
    refine g_iconst (x := (nI 1)) O dX9_set_1 (by decide +kernel) ?_
    refine g_icmp_neN (tgt := 9) O (by omega) (by omega) dX9_set_2 (by decide) (fun c_29 => ?_) (fun c_29 => absurd c_29 (by decide))
    refine g_iload_n O dX9_set_9 1 rfl rfl ?_
    refine g_iconst (x := (nI 3)) O dX9_set_10 (by decide +kernel) ?_
    refine g_icmp_neN (tgt := 19) O (by omega) (by omega) dX9_set_11 (by decide) (fun c_30 => absurd c_30 (by decide)) (fun c_30 => ?_)
    refine g_bipush (x := (nI 50)) O dX9_set_14 (by decide +kernel) ?_
    refine g_goto (tgt := 20) O dX9_set_16 (by decide) ?_
    refine g_istore_n (L' := [(0, .ref u0), (1, .int (nI 3)), (2, .int x), (3, .int (nI 50))]) O dX9_set_20 rfl (by decide) [1, 2, 3, 0] rfl ?_
    refine g_iload_n O dX9_set_21 1 rfl rfl ?_
    refine g_iconst (x := (nI 1)) O dX9_set_22 (by decide +kernel) ?_
    refine g_icmp_neN (tgt := 32) O (by omega) (by omega) dX9_set_23 (by decide) (fun c_31 => ?_) (fun c_31 => absurd c_31 (by decide))
    refine g_iload_n O dX9_set_32 1 rfl rfl ?_
    refine g_iconst (x := (nI 3)) O dX9_set_33 (by decide +kernel) ?_
    refine g_icmp_neN (tgt := 43) O (by omega) (by omega) dX9_set_34 (by decide) (fun c_32 => absurd c_32 (by decide)) (fun c_32 => ?_)
    refine g_sipush (x := (nI 201)) O dX9_set_37 (by decide +kernel) ?_
    refine g_goto (tgt := 45) O dX9_set_40 (by decide) ?_
    refine g_istore (L' := [(0, .ref u0), (1, .int (nI 3)), (2, .int x), (3, .int (nI 50)), (4, .int (nI 201))]) O dX9_set_45 (by decide) [1, 2, 3, 4, 0] rfl ?_
    refine g_iload_n O dX9_set_47 1 rfl rfl ?_
    refine g_iconst (x := (nI 0)) O dX9_set_48 (by decide +kernel) ?_
    refine g_iconst (x := (nI 3)) O dX9_set_49 (by decide +kernel) ?_
    refine g_callS (As := [.int (nI 3), .int (nI 0), .int (nI 3)]) (wr := [(u0, .inr (9, [.ref u1, .ref u2, .ref u3, .ref u4, .ref u5, .ref u6, .int (nI kn), .ref u7, .int (bB ik), .ref u8, .int (nI ty), .ref u9, .int (nI ta), .int (bB iw), .ref u10, .ref u11]))]) O (kX9_in l D z (nI 3) (nI 0) (nI 3) ) gX9_set_X9_in rfl rfl rfl 3 (by decide +kernel) (by decide) (by decide) [] [0] rfl (by decide) rfl (by decide) (by decide) rfl rfl (Nat.le_of_ble_eq_true rfl) dX9_set_50 (fun r_33 w_34 hp => ?_)
    obtain ⟨rfl, rfl⟩ := hp
    refine g_eq (st' := [.int (bB (inI (nI 3) (nI 0) (nI 3)))]) (ws' := [(u0, .inr (9, [.ref u1, .ref u2, .ref u3, .ref u4, .ref u5, .ref u6, .int (nI kn), .ref u7, .int (bB ik), .ref u8, .int (nI ty), .ref u9, .int (nI ta), .int (bB iw), .ref u10, .ref u11]))]) rfl rfl rfl ?_
    refine g_eq (st' := [.int (bB (rgB (nI 3) 4))]) (by rw [inI_r _ (by decide)]) rfl rfl ?_
    refine g_if_eqB (tgt := 66) O dX9_set_53 (by decide) (fun c_35 => absurd c_35 (by decide)) (fun c_35 => ?_)
    refine g_iload_n O dX9_set_56 2 rfl rfl ?_
    refine g_iload_n O dX9_set_57 3 rfl rfl ?_
    refine g_iload O dX9_set_58 4 rfl ?_
    refine g_callS (As := [.int x, .int (nI 50), .int (nI 201)]) (wr := [(u0, .inr (9, [.ref u1, .ref u2, .ref u3, .ref u4, .ref u5, .ref u6, .int (nI kn), .ref u7, .int (bB ik), .ref u8, .int (nI ty), .ref u9, .int (nI ta), .int (bB iw), .ref u10, .ref u11]))]) O (kX9_in l D z x (nI 50) (nI 201) ) gX9_set_X9_in rfl rfl rfl 3 (by decide +kernel) (by decide) (by decide) [] [0] rfl (by decide) rfl (by decide) (by decide) rfl rfl (Nat.le_of_ble_eq_true rfl) dX9_set_60 (fun r_36 w_37 hp => ?_)
    obtain ⟨rfl, rfl⟩ := hp
    refine g_eq (st' := [.int (bB (inI x (nI 50) (nI 201)))]) (ws' := [(u0, .inr (9, [.ref u1, .ref u2, .ref u3, .ref u4, .ref u5, .ref u6, .int (nI kn), .ref u7, .int (bB ik), .ref u8, .int (nI ty), .ref u9, .int (nI ta), .int (bB iw), .ref u10, .ref u11]))]) rfl rfl rfl ?_
    refine g_if_neB (tgt := 69) O dX9_set_63 (by decide) (fun c_38 => absurd c_38 (by rw [inI_f (by exact hb)]; decide)) (fun c_38 => ?_)
    refine g_bipush (x := (-2)) O dX9_set_66 (by decide +kernel) ?_
    exact E 68 _ (-2) _ dX9_set_68 ⟨rfl, rfl⟩

theorem hiX9_set_X9 : ∀ w ∈ wsX90, w ∈ wsX9_set := by decide +kernel
set_option maxHeartbeats 4000000 in
set_option maxRecDepth 100000 in
theorem kX9_set_b3 (l : Launch) (D : va_G) (z : Nat × Nat × Nat) (u0 : Nat) (u1 : Nat) (u2 : Nat) (u3 : Nat) (u4 : Nat) (u5 : Nat) (u6 : Nat) (u7 : Nat) (u8 : Nat) (u9 : Nat) (u10 : Nat) (u11 : Nat) (kn : Nat) (ik : Bool) (ty : Nat) (ta : Nat) (iw : Bool) (M : Nat → Int32) (s : SV) (w : Nat) (x : Int32) (hM : RM M s) (hw : w < 4) (h1 : ¬ x < zL w) (h2 : x ≤ zM w) (hb : x = sv_se s w) : CM l yX9_set wsX9_set ({ frames := 1, cells := 0, slots := 0, locals := 22 } : Room) D z [.ref u0, .int (nI w), .int x] [(u0, .inr (9, [.ref u1, .ref u2, .ref u3, .ref u4, .ref u5, .ref u6, .int (nI kn), .ref u7, .int (bB ik), .ref u8, .int (nI ty), .ref u9, .int (nI ta), .int (bB iw), .ref u10, .ref u11])), (u5, .inl ((TY D)[0].1, 208, .inl M))] (fun r_ w_ => r_ = some (.int (-5)) ∧ w_ = [(u0, .inr (9, [.ref u1, .ref u2, .ref u3, .ref u4, .ref u5, .ref u6, .int (nI kn), .ref u7, .int (bB ik), .ref u8, .int (nI ty), .ref u9, .int (nI ta), .int (bB iw), .ref u10, .ref u11])), (u5, .inl ((TY D)[0].1, 208, .inl M))]) 0 0 := by
  refine CM_int (own := RX9) (cc := cX9_set) (maxL := 6) (L0 := [(0, .ref u0), (1, .int (nI w)), (2, .int x)]) (by decide) rfl rfl (Nat.le_of_ble_eq_true rfl) rfl (fun X O E => ?_)
  rcases (show w = 0 ∨ w = 1 ∨ w = 2 ∨ w = 3 by omega) with rfl | rfl | rfl | rfl
  ·
    refine g_iload_n O dX9_set_0 1 rfl rfl ?_
    refine g_iconst (x := (nI 1)) O dX9_set_1 (by decide +kernel) ?_
    refine g_icmp_neN (tgt := 9) O (by omega) (by omega) dX9_set_2 (by decide) (fun c_1 => ?_) (fun c_1 => absurd c_1 (by decide))
    refine g_iload_n O dX9_set_9 1 rfl rfl ?_
    refine g_iconst (x := (nI 3)) O dX9_set_10 (by decide +kernel) ?_
    refine g_icmp_neN (tgt := 19) O (by omega) (by omega) dX9_set_11 (by decide) (fun c_2 => ?_) (fun c_2 => absurd c_2 (by decide))
    refine g_iconst (x := (nI 0)) O dX9_set_19 (by decide +kernel) ?_
    refine g_istore_n (L' := [(0, .ref u0), (1, .int (nI 0)), (2, .int x), (3, .int (nI 0))]) O dX9_set_20 rfl (by decide) [1, 2, 3, 0] rfl ?_
    refine g_iload_n O dX9_set_21 1 rfl rfl ?_
    refine g_iconst (x := (nI 1)) O dX9_set_22 (by decide +kernel) ?_
    refine g_icmp_neN (tgt := 32) O (by omega) (by omega) dX9_set_23 (by decide) (fun c_3 => ?_) (fun c_3 => absurd c_3 (by decide))
    refine g_iload_n O dX9_set_32 1 rfl rfl ?_
    refine g_iconst (x := (nI 3)) O dX9_set_33 (by decide +kernel) ?_
    refine g_icmp_neN (tgt := 43) O (by omega) (by omega) dX9_set_34 (by decide) (fun c_4 => ?_) (fun c_4 => absurd c_4 (by decide))
    refine g_bipush (x := (nI 60)) O dX9_set_43 (by decide +kernel) ?_
    refine g_istore (L' := [(0, .ref u0), (1, .int (nI 0)), (2, .int x), (3, .int (nI 0)), (4, .int (nI 60))]) O dX9_set_45 (by decide) [1, 2, 3, 4, 0] rfl ?_
    refine g_iload_n O dX9_set_47 1 rfl rfl ?_
    refine g_iconst (x := (nI 0)) O dX9_set_48 (by decide +kernel) ?_
    refine g_iconst (x := (nI 3)) O dX9_set_49 (by decide +kernel) ?_
    refine g_callS (As := [.int (nI 0), .int (nI 0), .int (nI 3)]) (wr := [(u0, .inr (9, [.ref u1, .ref u2, .ref u3, .ref u4, .ref u5, .ref u6, .int (nI kn), .ref u7, .int (bB ik), .ref u8, .int (nI ty), .ref u9, .int (nI ta), .int (bB iw), .ref u10, .ref u11])), (u5, .inl ((TY D)[0].1, 208, .inl M))]) O (kX9_in l D z (nI 0) (nI 0) (nI 3) ) gX9_set_X9_in rfl rfl rfl 3 (by decide +kernel) (by decide) (by decide) [] [0, 1] rfl (by decide) rfl (by decide) (by decide) rfl rfl (Nat.le_of_ble_eq_true rfl) dX9_set_50 (fun r_5 w_6 hp => ?_)
    obtain ⟨rfl, rfl⟩ := hp
    refine g_eq (st' := [.int (bB (inI (nI 0) (nI 0) (nI 3)))]) (ws' := [(u0, .inr (9, [.ref u1, .ref u2, .ref u3, .ref u4, .ref u5, .ref u6, .int (nI kn), .ref u7, .int (bB ik), .ref u8, .int (nI ty), .ref u9, .int (nI ta), .int (bB iw), .ref u10, .ref u11])), (u5, .inl ((TY D)[0].1, 208, .inl M))]) rfl rfl rfl ?_
    refine g_eq (st' := [.int (bB (rgB (nI 0) 4))]) (by rw [inI_r _ (by decide)]) rfl rfl ?_
    refine g_if_eqB (tgt := 66) O dX9_set_53 (by decide) (fun c_7 => absurd c_7 (by decide)) (fun c_7 => ?_)
    refine g_iload_n O dX9_set_56 2 rfl rfl ?_
    refine g_iload_n O dX9_set_57 3 rfl rfl ?_
    refine g_iload O dX9_set_58 4 rfl ?_
    refine g_callS (As := [.int x, .int (nI 0), .int (nI 60)]) (wr := [(u0, .inr (9, [.ref u1, .ref u2, .ref u3, .ref u4, .ref u5, .ref u6, .int (nI kn), .ref u7, .int (bB ik), .ref u8, .int (nI ty), .ref u9, .int (nI ta), .int (bB iw), .ref u10, .ref u11])), (u5, .inl ((TY D)[0].1, 208, .inl M))]) O (kX9_in l D z x (nI 0) (nI 60) ) gX9_set_X9_in rfl rfl rfl 3 (by decide +kernel) (by decide) (by decide) [] [0, 1] rfl (by decide) rfl (by decide) (by decide) rfl rfl (Nat.le_of_ble_eq_true rfl) dX9_set_60 (fun r_8 w_9 hp => ?_)
    obtain ⟨rfl, rfl⟩ := hp
    refine g_eq (st' := [.int (bB (inI x (nI 0) (nI 60)))]) (ws' := [(u0, .inr (9, [.ref u1, .ref u2, .ref u3, .ref u4, .ref u5, .ref u6, .int (nI kn), .ref u7, .int (bB ik), .ref u8, .int (nI ty), .ref u9, .int (nI ta), .int (bB iw), .ref u10, .ref u11])), (u5, .inl ((TY D)[0].1, 208, .inl M))]) rfl rfl rfl ?_
    refine g_if_neB (tgt := 69) O dX9_set_63 (by decide) (fun c_10 => ?_) (fun c_10 => absurd c_10 (by rw [inI_t (Int32.not_lt.mp h1) h2]; decide))
    refine g_aload_n O dX9_set_69 0 rfl rfl ?_
    refine g_get O hiX9_set_X9 0 rfl rfl 4 (by decide) (by decide +kernel) rfl dX9_set_70 ?_
    refine g_sipush (x := (nI 144)) O dX9_set_73 (by decide +kernel) ?_
    refine g_iload_n O dX9_set_76 1 rfl rfl ?_
    refine g_iaddN O dX9_set_77 ?_
    refine g_ialdN O 1 rfl (by omega) (by omega) dX9_set_78 ?_
    refine g_eq (st' := [.int (sv_se s 0)]) (by rw [RM_se hM (show 0 < 4 by omega)]) rfl rfl ?_
    refine g_istore (L' := [(0, .ref u0), (1, .int (nI 0)), (2, .int x), (3, .int (nI 0)), (4, .int (nI 60)), (5, .int (sv_se s 0))]) O dX9_set_79 (by decide) [1, 2, 3, 4, 5, 0] rfl ?_
    refine g_iload O dX9_set_81 5 rfl ?_
    refine g_iload_n O dX9_set_83 2 rfl rfl ?_
    refine g_icmp_ne (tgt := 90) O dX9_set_84 (by decide) (fun c_11 => absurd c_11 (fun h => h hb.symm)) (fun c_11 => ?_)
    refine g_bipush (x := (-5)) O dX9_set_87 (by decide +kernel) ?_
    exact E 89 _ (-5) _ dX9_set_89 ⟨rfl, rfl⟩
  ·
    refine g_iload_n O dX9_set_0 1 rfl rfl ?_
    refine g_iconst (x := (nI 1)) O dX9_set_1 (by decide +kernel) ?_
    refine g_icmp_neN (tgt := 9) O (by omega) (by omega) dX9_set_2 (by decide) (fun c_12 => absurd c_12 (by decide)) (fun c_12 => ?_)
    refine g_iconst (x := (nI 1)) O dX9_set_5 (by decide +kernel) ?_
    refine g_goto (tgt := 20) O dX9_set_6 (by decide) ?_
    refine g_istore_n (L' := [(0, .ref u0), (1, .int (nI 1)), (2, .int x), (3, .int (nI 1))]) O dX9_set_20 rfl (by decide) [1, 2, 3, 0] rfl ?_
    refine g_iload_n O dX9_set_21 1 rfl rfl ?_
    refine g_iconst (x := (nI 1)) O dX9_set_22 (by decide +kernel) ?_
    refine g_icmp_neN (tgt := 32) O (by omega) (by omega) dX9_set_23 (by decide) (fun c_13 => absurd c_13 (by decide)) (fun c_13 => ?_)
    refine g_sipush (x := (nI 150)) O dX9_set_26 (by decide +kernel) ?_
    refine g_goto (tgt := 45) O dX9_set_29 (by decide) ?_
    refine g_istore (L' := [(0, .ref u0), (1, .int (nI 1)), (2, .int x), (3, .int (nI 1)), (4, .int (nI 150))]) O dX9_set_45 (by decide) [1, 2, 3, 4, 0] rfl ?_
    refine g_iload_n O dX9_set_47 1 rfl rfl ?_
    refine g_iconst (x := (nI 0)) O dX9_set_48 (by decide +kernel) ?_
    refine g_iconst (x := (nI 3)) O dX9_set_49 (by decide +kernel) ?_
    refine g_callS (As := [.int (nI 1), .int (nI 0), .int (nI 3)]) (wr := [(u0, .inr (9, [.ref u1, .ref u2, .ref u3, .ref u4, .ref u5, .ref u6, .int (nI kn), .ref u7, .int (bB ik), .ref u8, .int (nI ty), .ref u9, .int (nI ta), .int (bB iw), .ref u10, .ref u11])), (u5, .inl ((TY D)[0].1, 208, .inl M))]) O (kX9_in l D z (nI 1) (nI 0) (nI 3) ) gX9_set_X9_in rfl rfl rfl 3 (by decide +kernel) (by decide) (by decide) [] [0, 1] rfl (by decide) rfl (by decide) (by decide) rfl rfl (Nat.le_of_ble_eq_true rfl) dX9_set_50 (fun r_14 w_15 hp => ?_)
    obtain ⟨rfl, rfl⟩ := hp
    refine g_eq (st' := [.int (bB (inI (nI 1) (nI 0) (nI 3)))]) (ws' := [(u0, .inr (9, [.ref u1, .ref u2, .ref u3, .ref u4, .ref u5, .ref u6, .int (nI kn), .ref u7, .int (bB ik), .ref u8, .int (nI ty), .ref u9, .int (nI ta), .int (bB iw), .ref u10, .ref u11])), (u5, .inl ((TY D)[0].1, 208, .inl M))]) rfl rfl rfl ?_
    refine g_eq (st' := [.int (bB (rgB (nI 1) 4))]) (by rw [inI_r _ (by decide)]) rfl rfl ?_
    refine g_if_eqB (tgt := 66) O dX9_set_53 (by decide) (fun c_16 => absurd c_16 (by decide)) (fun c_16 => ?_)
    refine g_iload_n O dX9_set_56 2 rfl rfl ?_
    refine g_iload_n O dX9_set_57 3 rfl rfl ?_
    refine g_iload O dX9_set_58 4 rfl ?_
    refine g_callS (As := [.int x, .int (nI 1), .int (nI 150)]) (wr := [(u0, .inr (9, [.ref u1, .ref u2, .ref u3, .ref u4, .ref u5, .ref u6, .int (nI kn), .ref u7, .int (bB ik), .ref u8, .int (nI ty), .ref u9, .int (nI ta), .int (bB iw), .ref u10, .ref u11])), (u5, .inl ((TY D)[0].1, 208, .inl M))]) O (kX9_in l D z x (nI 1) (nI 150) ) gX9_set_X9_in rfl rfl rfl 3 (by decide +kernel) (by decide) (by decide) [] [0, 1] rfl (by decide) rfl (by decide) (by decide) rfl rfl (Nat.le_of_ble_eq_true rfl) dX9_set_60 (fun r_17 w_18 hp => ?_)
    obtain ⟨rfl, rfl⟩ := hp
    refine g_eq (st' := [.int (bB (inI x (nI 1) (nI 150)))]) (ws' := [(u0, .inr (9, [.ref u1, .ref u2, .ref u3, .ref u4, .ref u5, .ref u6, .int (nI kn), .ref u7, .int (bB ik), .ref u8, .int (nI ty), .ref u9, .int (nI ta), .int (bB iw), .ref u10, .ref u11])), (u5, .inl ((TY D)[0].1, 208, .inl M))]) rfl rfl rfl ?_
    refine g_if_neB (tgt := 69) O dX9_set_63 (by decide) (fun c_19 => ?_) (fun c_19 => absurd c_19 (by rw [inI_t (Int32.not_lt.mp h1) h2]; decide))
    refine g_aload_n O dX9_set_69 0 rfl rfl ?_
    refine g_get O hiX9_set_X9 0 rfl rfl 4 (by decide) (by decide +kernel) rfl dX9_set_70 ?_
    refine g_sipush (x := (nI 144)) O dX9_set_73 (by decide +kernel) ?_
    refine g_iload_n O dX9_set_76 1 rfl rfl ?_
    refine g_iaddN O dX9_set_77 ?_
    refine g_ialdN O 1 rfl (by omega) (by omega) dX9_set_78 ?_
    refine g_eq (st' := [.int (sv_se s 1)]) (by rw [RM_se hM (show 1 < 4 by omega)]) rfl rfl ?_
    refine g_istore (L' := [(0, .ref u0), (1, .int (nI 1)), (2, .int x), (3, .int (nI 1)), (4, .int (nI 150)), (5, .int (sv_se s 1))]) O dX9_set_79 (by decide) [1, 2, 3, 4, 5, 0] rfl ?_
    refine g_iload O dX9_set_81 5 rfl ?_
    refine g_iload_n O dX9_set_83 2 rfl rfl ?_
    refine g_icmp_ne (tgt := 90) O dX9_set_84 (by decide) (fun c_20 => absurd c_20 (fun h => h hb.symm)) (fun c_20 => ?_)
    refine g_bipush (x := (-5)) O dX9_set_87 (by decide +kernel) ?_
    exact E 89 _ (-5) _ dX9_set_89 ⟨rfl, rfl⟩
  ·
    refine g_iload_n O dX9_set_0 1 rfl rfl ?_
    refine g_iconst (x := (nI 1)) O dX9_set_1 (by decide +kernel) ?_
    refine g_icmp_neN (tgt := 9) O (by omega) (by omega) dX9_set_2 (by decide) (fun c_21 => ?_) (fun c_21 => absurd c_21 (by decide))
    refine g_iload_n O dX9_set_9 1 rfl rfl ?_
    refine g_iconst (x := (nI 3)) O dX9_set_10 (by decide +kernel) ?_
    refine g_icmp_neN (tgt := 19) O (by omega) (by omega) dX9_set_11 (by decide) (fun c_22 => ?_) (fun c_22 => absurd c_22 (by decide))
    refine g_iconst (x := (nI 0)) O dX9_set_19 (by decide +kernel) ?_
    refine g_istore_n (L' := [(0, .ref u0), (1, .int (nI 2)), (2, .int x), (3, .int (nI 0))]) O dX9_set_20 rfl (by decide) [1, 2, 3, 0] rfl ?_
    refine g_iload_n O dX9_set_21 1 rfl rfl ?_
    refine g_iconst (x := (nI 1)) O dX9_set_22 (by decide +kernel) ?_
    refine g_icmp_neN (tgt := 32) O (by omega) (by omega) dX9_set_23 (by decide) (fun c_23 => ?_) (fun c_23 => absurd c_23 (by decide))
    refine g_iload_n O dX9_set_32 1 rfl rfl ?_
    refine g_iconst (x := (nI 3)) O dX9_set_33 (by decide +kernel) ?_
    refine g_icmp_neN (tgt := 43) O (by omega) (by omega) dX9_set_34 (by decide) (fun c_24 => ?_) (fun c_24 => absurd c_24 (by decide))
    refine g_bipush (x := (nI 60)) O dX9_set_43 (by decide +kernel) ?_
    refine g_istore (L' := [(0, .ref u0), (1, .int (nI 2)), (2, .int x), (3, .int (nI 0)), (4, .int (nI 60))]) O dX9_set_45 (by decide) [1, 2, 3, 4, 0] rfl ?_
    refine g_iload_n O dX9_set_47 1 rfl rfl ?_
    refine g_iconst (x := (nI 0)) O dX9_set_48 (by decide +kernel) ?_
    refine g_iconst (x := (nI 3)) O dX9_set_49 (by decide +kernel) ?_
    refine g_callS (As := [.int (nI 2), .int (nI 0), .int (nI 3)]) (wr := [(u0, .inr (9, [.ref u1, .ref u2, .ref u3, .ref u4, .ref u5, .ref u6, .int (nI kn), .ref u7, .int (bB ik), .ref u8, .int (nI ty), .ref u9, .int (nI ta), .int (bB iw), .ref u10, .ref u11])), (u5, .inl ((TY D)[0].1, 208, .inl M))]) O (kX9_in l D z (nI 2) (nI 0) (nI 3) ) gX9_set_X9_in rfl rfl rfl 3 (by decide +kernel) (by decide) (by decide) [] [0, 1] rfl (by decide) rfl (by decide) (by decide) rfl rfl (Nat.le_of_ble_eq_true rfl) dX9_set_50 (fun r_25 w_26 hp => ?_)
    obtain ⟨rfl, rfl⟩ := hp
    refine g_eq (st' := [.int (bB (inI (nI 2) (nI 0) (nI 3)))]) (ws' := [(u0, .inr (9, [.ref u1, .ref u2, .ref u3, .ref u4, .ref u5, .ref u6, .int (nI kn), .ref u7, .int (bB ik), .ref u8, .int (nI ty), .ref u9, .int (nI ta), .int (bB iw), .ref u10, .ref u11])), (u5, .inl ((TY D)[0].1, 208, .inl M))]) rfl rfl rfl ?_
    refine g_eq (st' := [.int (bB (rgB (nI 2) 4))]) (by rw [inI_r _ (by decide)]) rfl rfl ?_
    refine g_if_eqB (tgt := 66) O dX9_set_53 (by decide) (fun c_27 => absurd c_27 (by decide)) (fun c_27 => ?_)
    refine g_iload_n O dX9_set_56 2 rfl rfl ?_
    refine g_iload_n O dX9_set_57 3 rfl rfl ?_
    refine g_iload O dX9_set_58 4 rfl ?_
    refine g_callS (As := [.int x, .int (nI 0), .int (nI 60)]) (wr := [(u0, .inr (9, [.ref u1, .ref u2, .ref u3, .ref u4, .ref u5, .ref u6, .int (nI kn), .ref u7, .int (bB ik), .ref u8, .int (nI ty), .ref u9, .int (nI ta), .int (bB iw), .ref u10, .ref u11])), (u5, .inl ((TY D)[0].1, 208, .inl M))]) O (kX9_in l D z x (nI 0) (nI 60) ) gX9_set_X9_in rfl rfl rfl 3 (by decide +kernel) (by decide) (by decide) [] [0, 1] rfl (by decide) rfl (by decide) (by decide) rfl rfl (Nat.le_of_ble_eq_true rfl) dX9_set_60 (fun r_28 w_29 hp => ?_)
    obtain ⟨rfl, rfl⟩ := hp
    refine g_eq (st' := [.int (bB (inI x (nI 0) (nI 60)))]) (ws' := [(u0, .inr (9, [.ref u1, .ref u2, .ref u3, .ref u4, .ref u5, .ref u6, .int (nI kn), .ref u7, .int (bB ik), .ref u8, .int (nI ty), .ref u9, .int (nI ta), .int (bB iw), .ref u10, .ref u11])), (u5, .inl ((TY D)[0].1, 208, .inl M))]) rfl rfl rfl ?_
    refine g_if_neB (tgt := 69) O dX9_set_63 (by decide) (fun c_30 => ?_) (fun c_30 => absurd c_30 (by rw [inI_t (Int32.not_lt.mp h1) h2]; decide))
    refine g_aload_n O dX9_set_69 0 rfl rfl ?_
    refine g_get O hiX9_set_X9 0 rfl rfl 4 (by decide) (by decide +kernel) rfl dX9_set_70 ?_
    refine g_sipush (x := (nI 144)) O dX9_set_73 (by decide +kernel) ?_
    refine g_iload_n O dX9_set_76 1 rfl rfl ?_
    refine g_iaddN O dX9_set_77 ?_
    refine g_ialdN O 1 rfl (by omega) (by omega) dX9_set_78 ?_
    refine g_eq (st' := [.int (sv_se s 2)]) (by rw [RM_se hM (show 2 < 4 by omega)]) rfl rfl ?_
    refine g_istore (L' := [(0, .ref u0), (1, .int (nI 2)), (2, .int x), (3, .int (nI 0)), (4, .int (nI 60)), (5, .int (sv_se s 2))]) O dX9_set_79 (by decide) [1, 2, 3, 4, 5, 0] rfl ?_
    refine g_iload O dX9_set_81 5 rfl ?_
    refine g_iload_n O dX9_set_83 2 rfl rfl ?_
    refine g_icmp_ne (tgt := 90) O dX9_set_84 (by decide) (fun c_31 => absurd c_31 (fun h => h hb.symm)) (fun c_31 => ?_)
    refine g_bipush (x := (-5)) O dX9_set_87 (by decide +kernel) ?_
    exact E 89 _ (-5) _ dX9_set_89 ⟨rfl, rfl⟩
  ·
    refine g_iload_n O dX9_set_0 1 rfl rfl ?_
    refine g_iconst (x := (nI 1)) O dX9_set_1 (by decide +kernel) ?_
    refine g_icmp_neN (tgt := 9) O (by omega) (by omega) dX9_set_2 (by decide) (fun c_32 => ?_) (fun c_32 => absurd c_32 (by decide))
    refine g_iload_n O dX9_set_9 1 rfl rfl ?_
    refine g_iconst (x := (nI 3)) O dX9_set_10 (by decide +kernel) ?_
    refine g_icmp_neN (tgt := 19) O (by omega) (by omega) dX9_set_11 (by decide) (fun c_33 => absurd c_33 (by decide)) (fun c_33 => ?_)
    refine g_bipush (x := (nI 50)) O dX9_set_14 (by decide +kernel) ?_
    refine g_goto (tgt := 20) O dX9_set_16 (by decide) ?_
    refine g_istore_n (L' := [(0, .ref u0), (1, .int (nI 3)), (2, .int x), (3, .int (nI 50))]) O dX9_set_20 rfl (by decide) [1, 2, 3, 0] rfl ?_
    refine g_iload_n O dX9_set_21 1 rfl rfl ?_
    refine g_iconst (x := (nI 1)) O dX9_set_22 (by decide +kernel) ?_
    refine g_icmp_neN (tgt := 32) O (by omega) (by omega) dX9_set_23 (by decide) (fun c_34 => ?_) (fun c_34 => absurd c_34 (by decide))
    refine g_iload_n O dX9_set_32 1 rfl rfl ?_
    refine g_iconst (x := (nI 3)) O dX9_set_33 (by decide +kernel) ?_
    refine g_icmp_neN (tgt := 43) O (by omega) (by omega) dX9_set_34 (by decide) (fun c_35 => absurd c_35 (by decide)) (fun c_35 => ?_)
    refine g_sipush (x := (nI 201)) O dX9_set_37 (by decide +kernel) ?_
    refine g_goto (tgt := 45) O dX9_set_40 (by decide) ?_
    refine g_istore (L' := [(0, .ref u0), (1, .int (nI 3)), (2, .int x), (3, .int (nI 50)), (4, .int (nI 201))]) O dX9_set_45 (by decide) [1, 2, 3, 4, 0] rfl ?_
    refine g_iload_n O dX9_set_47 1 rfl rfl ?_
    refine g_iconst (x := (nI 0)) O dX9_set_48 (by decide +kernel) ?_
    refine g_iconst (x := (nI 3)) O dX9_set_49 (by decide +kernel) ?_
    refine g_callS (As := [.int (nI 3), .int (nI 0), .int (nI 3)]) (wr := [(u0, .inr (9, [.ref u1, .ref u2, .ref u3, .ref u4, .ref u5, .ref u6, .int (nI kn), .ref u7, .int (bB ik), .ref u8, .int (nI ty), .ref u9, .int (nI ta), .int (bB iw), .ref u10, .ref u11])), (u5, .inl ((TY D)[0].1, 208, .inl M))]) O (kX9_in l D z (nI 3) (nI 0) (nI 3) ) gX9_set_X9_in rfl rfl rfl 3 (by decide +kernel) (by decide) (by decide) [] [0, 1] rfl (by decide) rfl (by decide) (by decide) rfl rfl (Nat.le_of_ble_eq_true rfl) dX9_set_50 (fun r_36 w_37 hp => ?_)
    obtain ⟨rfl, rfl⟩ := hp
    refine g_eq (st' := [.int (bB (inI (nI 3) (nI 0) (nI 3)))]) (ws' := [(u0, .inr (9, [.ref u1, .ref u2, .ref u3, .ref u4, .ref u5, .ref u6, .int (nI kn), .ref u7, .int (bB ik), .ref u8, .int (nI ty), .ref u9, .int (nI ta), .int (bB iw), .ref u10, .ref u11])), (u5, .inl ((TY D)[0].1, 208, .inl M))]) rfl rfl rfl ?_
    refine g_eq (st' := [.int (bB (rgB (nI 3) 4))]) (by rw [inI_r _ (by decide)]) rfl rfl ?_
    refine g_if_eqB (tgt := 66) O dX9_set_53 (by decide) (fun c_38 => absurd c_38 (by decide)) (fun c_38 => ?_)
    refine g_iload_n O dX9_set_56 2 rfl rfl ?_
    refine g_iload_n O dX9_set_57 3 rfl rfl ?_
    refine g_iload O dX9_set_58 4 rfl ?_
    refine g_callS (As := [.int x, .int (nI 50), .int (nI 201)]) (wr := [(u0, .inr (9, [.ref u1, .ref u2, .ref u3, .ref u4, .ref u5, .ref u6, .int (nI kn), .ref u7, .int (bB ik), .ref u8, .int (nI ty), .ref u9, .int (nI ta), .int (bB iw), .ref u10, .ref u11])), (u5, .inl ((TY D)[0].1, 208, .inl M))]) O (kX9_in l D z x (nI 50) (nI 201) ) gX9_set_X9_in rfl rfl rfl 3 (by decide +kernel) (by decide) (by decide) [] [0, 1] rfl (by decide) rfl (by decide) (by decide) rfl rfl (Nat.le_of_ble_eq_true rfl) dX9_set_60 (fun r_39 w_40 hp => ?_)
    obtain ⟨rfl, rfl⟩ := hp
    refine g_eq (st' := [.int (bB (inI x (nI 50) (nI 201)))]) (ws' := [(u0, .inr (9, [.ref u1, .ref u2, .ref u3, .ref u4, .ref u5, .ref u6, .int (nI kn), .ref u7, .int (bB ik), .ref u8, .int (nI ty), .ref u9, .int (nI ta), .int (bB iw), .ref u10, .ref u11])), (u5, .inl ((TY D)[0].1, 208, .inl M))]) rfl rfl rfl ?_
    refine g_if_neB (tgt := 69) O dX9_set_63 (by decide) (fun c_41 => ?_) (fun c_41 => absurd c_41 (by rw [inI_t (Int32.not_lt.mp h1) h2]; decide))
    refine g_aload_n O dX9_set_69 0 rfl rfl ?_
    refine g_get O hiX9_set_X9 0 rfl rfl 4 (by decide) (by decide +kernel) rfl dX9_set_70 ?_
    refine g_sipush (x := (nI 144)) O dX9_set_73 (by decide +kernel) ?_
    refine g_iload_n O dX9_set_76 1 rfl rfl ?_
    refine g_iaddN O dX9_set_77 ?_
    refine g_ialdN O 1 rfl (by omega) (by omega) dX9_set_78 ?_
    refine g_eq (st' := [.int (sv_se s 3)]) (by rw [RM_se hM (show 3 < 4 by omega)]) rfl rfl ?_
    refine g_istore (L' := [(0, .ref u0), (1, .int (nI 3)), (2, .int x), (3, .int (nI 50)), (4, .int (nI 201)), (5, .int (sv_se s 3))]) O dX9_set_79 (by decide) [1, 2, 3, 4, 5, 0] rfl ?_
    refine g_iload O dX9_set_81 5 rfl ?_
    refine g_iload_n O dX9_set_83 2 rfl rfl ?_
    refine g_icmp_ne (tgt := 90) O dX9_set_84 (by decide) (fun c_42 => absurd c_42 (fun h => h hb.symm)) (fun c_42 => ?_)
    refine g_bipush (x := (-5)) O dX9_set_87 (by decide +kernel) ?_
    exact E 89 _ (-5) _ dX9_set_89 ⟨rfl, rfl⟩

set_option maxHeartbeats 4000000 in
set_option maxRecDepth 100000 in
theorem kX9_set_ok (l : Launch) (D : va_G) (z : Nat × Nat × Nat) (u0 : Nat) (u1 : Nat) (u2 : Nat) (u3 : Nat) (u4 : Nat) (u5 : Nat) (u6 : Nat) (u7 : Nat) (u8 : Nat) (u9 : Nat) (u10 : Nat) (u11 : Nat) (kn : Nat) (ik : Bool) (ty : Nat) (ta : Nat) (iw : Bool) (M : Nat → Int32) (Bf : Nat → Int32) (s : SV) (w : Nat) (x : Int32) (hM : RM M s) (hkn : kn ≤ 4) (hw : w < 4) (h1 : ¬ x < zL w) (h2 : x ≤ zM w) (hb : ¬ x = sv_se s w) : CM l yX9_set wsX9_set ({ frames := 1, cells := 0, slots := 0, locals := 22 } : Room) D z [.ref u0, .int (nI w), .int x] [(u0, .inr (9, [.ref u1, .ref u2, .ref u3, .ref u4, .ref u5, .ref u6, .int (nI kn), .ref u7, .int (bB ik), .ref u8, .int (nI ty), .ref u9, .int (nI ta), .int (bB iw), .ref u10, .ref u11])), (u5, .inl ((TY D)[0].1, 208, .inl M)), (u6, .inl ((TY D)[0].1, 832, .inl Bf))] (fun r_ w_ => ∃ (M9 : Nat → Int32), (RM M9 (mkS (sv_g s) (sv_cc s) (sv_cr s) (sv_nc s) (upd (sv_se s) w x) (sv_fs s) (sv_fa s) (sv_fk s) (sv_ps s) (sv_la s) (sv_st s) (sv_sw s) (sv_fl s) (sv_sk s) (sv_mu s))) ∧ r_ = some (.int (sv_se s w)) ∧ w_ = [(u0, .inr (9, [.ref u1, .ref u2, .ref u3, .ref u4, .ref u5, .ref u6, .int (nI (rhN kn)), .ref u7, .int (bB ik), .ref u8, .int (nI ty), .ref u9, .int (nI ta), .int (bB iw), .ref u10, .ref u11])), (u5, .inl ((TY D)[0].1, 208, .inl M9)), (u6, .inl ((TY D)[0].1, 832, .inl (kwF Bf M kn)))]) 0 0 := by
  refine CM_int (own := RX9) (cc := cX9_set) (maxL := 6) (L0 := [(0, .ref u0), (1, .int (nI w)), (2, .int x)]) (by decide) rfl rfl (Nat.le_of_ble_eq_true rfl) rfl (fun X O E => ?_)
  rcases (show w = 0 ∨ w = 1 ∨ w = 2 ∨ w = 3 by omega) with rfl | rfl | rfl | rfl
  ·
    refine g_iload_n O dX9_set_0 1 rfl rfl ?_
    refine g_iconst (x := (nI 1)) O dX9_set_1 (by decide +kernel) ?_
    refine g_icmp_neN (tgt := 9) O (by omega) (by omega) dX9_set_2 (by decide) (fun c_1 => ?_) (fun c_1 => absurd c_1 (by decide))
    refine g_iload_n O dX9_set_9 1 rfl rfl ?_
    refine g_iconst (x := (nI 3)) O dX9_set_10 (by decide +kernel) ?_
    refine g_icmp_neN (tgt := 19) O (by omega) (by omega) dX9_set_11 (by decide) (fun c_2 => ?_) (fun c_2 => absurd c_2 (by decide))
    refine g_iconst (x := (nI 0)) O dX9_set_19 (by decide +kernel) ?_
    refine g_istore_n (L' := [(0, .ref u0), (1, .int (nI 0)), (2, .int x), (3, .int (nI 0))]) O dX9_set_20 rfl (by decide) [1, 2, 3, 0] rfl ?_
    refine g_iload_n O dX9_set_21 1 rfl rfl ?_
    refine g_iconst (x := (nI 1)) O dX9_set_22 (by decide +kernel) ?_
    refine g_icmp_neN (tgt := 32) O (by omega) (by omega) dX9_set_23 (by decide) (fun c_3 => ?_) (fun c_3 => absurd c_3 (by decide))
    refine g_iload_n O dX9_set_32 1 rfl rfl ?_
    refine g_iconst (x := (nI 3)) O dX9_set_33 (by decide +kernel) ?_
    refine g_icmp_neN (tgt := 43) O (by omega) (by omega) dX9_set_34 (by decide) (fun c_4 => ?_) (fun c_4 => absurd c_4 (by decide))
    refine g_bipush (x := (nI 60)) O dX9_set_43 (by decide +kernel) ?_
    refine g_istore (L' := [(0, .ref u0), (1, .int (nI 0)), (2, .int x), (3, .int (nI 0)), (4, .int (nI 60))]) O dX9_set_45 (by decide) [1, 2, 3, 4, 0] rfl ?_
    refine g_iload_n O dX9_set_47 1 rfl rfl ?_
    refine g_iconst (x := (nI 0)) O dX9_set_48 (by decide +kernel) ?_
    refine g_iconst (x := (nI 3)) O dX9_set_49 (by decide +kernel) ?_
    refine g_callS (As := [.int (nI 0), .int (nI 0), .int (nI 3)]) (wr := [(u0, .inr (9, [.ref u1, .ref u2, .ref u3, .ref u4, .ref u5, .ref u6, .int (nI kn), .ref u7, .int (bB ik), .ref u8, .int (nI ty), .ref u9, .int (nI ta), .int (bB iw), .ref u10, .ref u11])), (u5, .inl ((TY D)[0].1, 208, .inl M)), (u6, .inl ((TY D)[0].1, 832, .inl Bf))]) O (kX9_in l D z (nI 0) (nI 0) (nI 3) ) gX9_set_X9_in rfl rfl rfl 3 (by decide +kernel) (by decide) (by decide) [] [0, 1, 2] rfl (by decide) rfl (by decide) (by decide) rfl rfl (Nat.le_of_ble_eq_true rfl) dX9_set_50 (fun r_5 w_6 hp => ?_)
    obtain ⟨rfl, rfl⟩ := hp
    refine g_eq (st' := [.int (bB (inI (nI 0) (nI 0) (nI 3)))]) (ws' := [(u0, .inr (9, [.ref u1, .ref u2, .ref u3, .ref u4, .ref u5, .ref u6, .int (nI kn), .ref u7, .int (bB ik), .ref u8, .int (nI ty), .ref u9, .int (nI ta), .int (bB iw), .ref u10, .ref u11])), (u5, .inl ((TY D)[0].1, 208, .inl M)), (u6, .inl ((TY D)[0].1, 832, .inl Bf))]) rfl rfl rfl ?_
    refine g_eq (st' := [.int (bB (rgB (nI 0) 4))]) (by rw [inI_r _ (by decide)]) rfl rfl ?_
    refine g_if_eqB (tgt := 66) O dX9_set_53 (by decide) (fun c_7 => absurd c_7 (by decide)) (fun c_7 => ?_)
    refine g_iload_n O dX9_set_56 2 rfl rfl ?_
    refine g_iload_n O dX9_set_57 3 rfl rfl ?_
    refine g_iload O dX9_set_58 4 rfl ?_
    refine g_callS (As := [.int x, .int (nI 0), .int (nI 60)]) (wr := [(u0, .inr (9, [.ref u1, .ref u2, .ref u3, .ref u4, .ref u5, .ref u6, .int (nI kn), .ref u7, .int (bB ik), .ref u8, .int (nI ty), .ref u9, .int (nI ta), .int (bB iw), .ref u10, .ref u11])), (u5, .inl ((TY D)[0].1, 208, .inl M)), (u6, .inl ((TY D)[0].1, 832, .inl Bf))]) O (kX9_in l D z x (nI 0) (nI 60) ) gX9_set_X9_in rfl rfl rfl 3 (by decide +kernel) (by decide) (by decide) [] [0, 1, 2] rfl (by decide) rfl (by decide) (by decide) rfl rfl (Nat.le_of_ble_eq_true rfl) dX9_set_60 (fun r_8 w_9 hp => ?_)
    obtain ⟨rfl, rfl⟩ := hp
    refine g_eq (st' := [.int (bB (inI x (nI 0) (nI 60)))]) (ws' := [(u0, .inr (9, [.ref u1, .ref u2, .ref u3, .ref u4, .ref u5, .ref u6, .int (nI kn), .ref u7, .int (bB ik), .ref u8, .int (nI ty), .ref u9, .int (nI ta), .int (bB iw), .ref u10, .ref u11])), (u5, .inl ((TY D)[0].1, 208, .inl M)), (u6, .inl ((TY D)[0].1, 832, .inl Bf))]) rfl rfl rfl ?_
    refine g_if_neB (tgt := 69) O dX9_set_63 (by decide) (fun c_10 => ?_) (fun c_10 => absurd c_10 (by rw [inI_t (Int32.not_lt.mp h1) h2]; decide))
    refine g_aload_n O dX9_set_69 0 rfl rfl ?_
    refine g_get O hiX9_set_X9 0 rfl rfl 4 (by decide) (by decide +kernel) rfl dX9_set_70 ?_
    refine g_sipush (x := (nI 144)) O dX9_set_73 (by decide +kernel) ?_
    refine g_iload_n O dX9_set_76 1 rfl rfl ?_
    refine g_iaddN O dX9_set_77 ?_
    refine g_ialdN O 1 rfl (by omega) (by omega) dX9_set_78 ?_
    refine g_eq (st' := [.int (sv_se s 0)]) (by rw [RM_se hM (show 0 < 4 by omega)]) rfl rfl ?_
    refine g_istore (L' := [(0, .ref u0), (1, .int (nI 0)), (2, .int x), (3, .int (nI 0)), (4, .int (nI 60)), (5, .int (sv_se s 0))]) O dX9_set_79 (by decide) [1, 2, 3, 4, 5, 0] rfl ?_
    refine g_iload O dX9_set_81 5 rfl ?_
    refine g_iload_n O dX9_set_83 2 rfl rfl ?_
    refine g_icmp_ne (tgt := 90) O dX9_set_84 (by decide) (fun c_11 => ?_) (fun c_11 => absurd c_11 (fun h => h (fun h2 => hb h2.symm)))
    refine g_aload_n O dX9_set_90 0 rfl rfl ?_
    refine g_callV (As := []) (wr := []) O (kX9_know l D z u0 u1 u2 u3 u4 u5 u6 u7 u8 u9 u10 u11 kn ik ty ta iw M Bf (by first | assumption | omega)) gX9_set_X9_know rfl rfl rfl 0 (by decide +kernel) (by decide) (by decide) (q0 := 0) rfl rfl rfl [0, 1, 2] [] rfl (by decide) rfl (by decide) (by decide) rfl rfl (Nat.le_of_ble_eq_true rfl) dX9_set_91 (fun r_12 w_13 hp => ?_)
    obtain ⟨rfl, rfl⟩ := hp
    refine g_eq (st' := []) (ws' := [(u0, .inr (9, [.ref u1, .ref u2, .ref u3, .ref u4, .ref u5, .ref u6, .int (nI (rhN kn)), .ref u7, .int (bB ik), .ref u8, .int (nI ty), .ref u9, .int (nI ta), .int (bB iw), .ref u10, .ref u11])), (u5, .inl ((TY D)[0].1, 208, .inl M)), (u6, .inl ((TY D)[0].1, 832, .inl (kwF Bf M kn)))]) rfl rfl rfl ?_
    refine g_aload_n O dX9_set_94 0 rfl rfl ?_
    refine g_get O hiX9_set_X9 0 rfl rfl 4 (by decide) (by decide +kernel) rfl dX9_set_95 ?_
    refine g_sipush (x := (nI 144)) O dX9_set_98 (by decide +kernel) ?_
    refine g_iload_n O dX9_set_101 1 rfl rfl ?_
    refine g_iaddN O dX9_set_102 ?_
    refine g_iload_n O dX9_set_103 2 rfl rfl ?_
    refine g_iastN (f' := (upd M (144 + 0) x)) (ws' := [(u0, .inr (9, [.ref u1, .ref u2, .ref u3, .ref u4, .ref u5, .ref u6, .int (nI (rhN kn)), .ref u7, .int (bB ik), .ref u8, .int (nI ty), .ref u9, .int (nI ta), .int (bB iw), .ref u10, .ref u11])), (u5, .inl ((TY D)[0].1, 208, .inl (upd M (144 + 0) x))), (u6, .inl ((TY D)[0].1, 832, .inl (kwF Bf M kn)))]) O 1 rfl (by omega) (by omega) dX9_set_104 rfl rfl ?_
    have hMf : RM (upd M (144 + 0) x) (s_se s (upd (sv_se s) 0 x)) := RM_wse hM (by omega)
    generalize (upd M (144 + 0) x) = M1 at hMf ⊢
    refine g_iload O dX9_set_105 5 rfl ?_
    exact E 107 _ (sv_se s 0) _ dX9_set_107 (⟨_, hMf, rfl, rfl⟩)
  ·
    refine g_iload_n O dX9_set_0 1 rfl rfl ?_
    refine g_iconst (x := (nI 1)) O dX9_set_1 (by decide +kernel) ?_
    refine g_icmp_neN (tgt := 9) O (by omega) (by omega) dX9_set_2 (by decide) (fun c_14 => absurd c_14 (by decide)) (fun c_14 => ?_)
    refine g_iconst (x := (nI 1)) O dX9_set_5 (by decide +kernel) ?_
    refine g_goto (tgt := 20) O dX9_set_6 (by decide) ?_
    refine g_istore_n (L' := [(0, .ref u0), (1, .int (nI 1)), (2, .int x), (3, .int (nI 1))]) O dX9_set_20 rfl (by decide) [1, 2, 3, 0] rfl ?_
    refine g_iload_n O dX9_set_21 1 rfl rfl ?_
    refine g_iconst (x := (nI 1)) O dX9_set_22 (by decide +kernel) ?_
    refine g_icmp_neN (tgt := 32) O (by omega) (by omega) dX9_set_23 (by decide) (fun c_15 => absurd c_15 (by decide)) (fun c_15 => ?_)
    refine g_sipush (x := (nI 150)) O dX9_set_26 (by decide +kernel) ?_
    refine g_goto (tgt := 45) O dX9_set_29 (by decide) ?_
    refine g_istore (L' := [(0, .ref u0), (1, .int (nI 1)), (2, .int x), (3, .int (nI 1)), (4, .int (nI 150))]) O dX9_set_45 (by decide) [1, 2, 3, 4, 0] rfl ?_
    refine g_iload_n O dX9_set_47 1 rfl rfl ?_
    refine g_iconst (x := (nI 0)) O dX9_set_48 (by decide +kernel) ?_
    refine g_iconst (x := (nI 3)) O dX9_set_49 (by decide +kernel) ?_
    refine g_callS (As := [.int (nI 1), .int (nI 0), .int (nI 3)]) (wr := [(u0, .inr (9, [.ref u1, .ref u2, .ref u3, .ref u4, .ref u5, .ref u6, .int (nI kn), .ref u7, .int (bB ik), .ref u8, .int (nI ty), .ref u9, .int (nI ta), .int (bB iw), .ref u10, .ref u11])), (u5, .inl ((TY D)[0].1, 208, .inl M)), (u6, .inl ((TY D)[0].1, 832, .inl Bf))]) O (kX9_in l D z (nI 1) (nI 0) (nI 3) ) gX9_set_X9_in rfl rfl rfl 3 (by decide +kernel) (by decide) (by decide) [] [0, 1, 2] rfl (by decide) rfl (by decide) (by decide) rfl rfl (Nat.le_of_ble_eq_true rfl) dX9_set_50 (fun r_16 w_17 hp => ?_)
    obtain ⟨rfl, rfl⟩ := hp
    refine g_eq (st' := [.int (bB (inI (nI 1) (nI 0) (nI 3)))]) (ws' := [(u0, .inr (9, [.ref u1, .ref u2, .ref u3, .ref u4, .ref u5, .ref u6, .int (nI kn), .ref u7, .int (bB ik), .ref u8, .int (nI ty), .ref u9, .int (nI ta), .int (bB iw), .ref u10, .ref u11])), (u5, .inl ((TY D)[0].1, 208, .inl M)), (u6, .inl ((TY D)[0].1, 832, .inl Bf))]) rfl rfl rfl ?_
    refine g_eq (st' := [.int (bB (rgB (nI 1) 4))]) (by rw [inI_r _ (by decide)]) rfl rfl ?_
    refine g_if_eqB (tgt := 66) O dX9_set_53 (by decide) (fun c_18 => absurd c_18 (by decide)) (fun c_18 => ?_)
    refine g_iload_n O dX9_set_56 2 rfl rfl ?_
    refine g_iload_n O dX9_set_57 3 rfl rfl ?_
    refine g_iload O dX9_set_58 4 rfl ?_
    refine g_callS (As := [.int x, .int (nI 1), .int (nI 150)]) (wr := [(u0, .inr (9, [.ref u1, .ref u2, .ref u3, .ref u4, .ref u5, .ref u6, .int (nI kn), .ref u7, .int (bB ik), .ref u8, .int (nI ty), .ref u9, .int (nI ta), .int (bB iw), .ref u10, .ref u11])), (u5, .inl ((TY D)[0].1, 208, .inl M)), (u6, .inl ((TY D)[0].1, 832, .inl Bf))]) O (kX9_in l D z x (nI 1) (nI 150) ) gX9_set_X9_in rfl rfl rfl 3 (by decide +kernel) (by decide) (by decide) [] [0, 1, 2] rfl (by decide) rfl (by decide) (by decide) rfl rfl (Nat.le_of_ble_eq_true rfl) dX9_set_60 (fun r_19 w_20 hp => ?_)
    obtain ⟨rfl, rfl⟩ := hp
    refine g_eq (st' := [.int (bB (inI x (nI 1) (nI 150)))]) (ws' := [(u0, .inr (9, [.ref u1, .ref u2, .ref u3, .ref u4, .ref u5, .ref u6, .int (nI kn), .ref u7, .int (bB ik), .ref u8, .int (nI ty), .ref u9, .int (nI ta), .int (bB iw), .ref u10, .ref u11])), (u5, .inl ((TY D)[0].1, 208, .inl M)), (u6, .inl ((TY D)[0].1, 832, .inl Bf))]) rfl rfl rfl ?_
    refine g_if_neB (tgt := 69) O dX9_set_63 (by decide) (fun c_21 => ?_) (fun c_21 => absurd c_21 (by rw [inI_t (Int32.not_lt.mp h1) h2]; decide))
    refine g_aload_n O dX9_set_69 0 rfl rfl ?_
    refine g_get O hiX9_set_X9 0 rfl rfl 4 (by decide) (by decide +kernel) rfl dX9_set_70 ?_
    refine g_sipush (x := (nI 144)) O dX9_set_73 (by decide +kernel) ?_
    refine g_iload_n O dX9_set_76 1 rfl rfl ?_
    refine g_iaddN O dX9_set_77 ?_
    refine g_ialdN O 1 rfl (by omega) (by omega) dX9_set_78 ?_
    refine g_istore (L' := [(0, .ref u0), (1, .int (nI 1)), (2, .int x), (3, .int (nI 1)), (4, .int (nI 150)), (5, .int (M (144 + 1)))]) O dX9_set_79 (by decide) [1, 2, 3, 4, 5, 0] rfl ?_
    refine g_iload O dX9_set_81 5 rfl ?_
    refine g_iload_n O dX9_set_83 2 rfl rfl ?_
    refine g_icmp_ne (tgt := 90) O dX9_set_84 (by decide) (fun c_22 => ?_) (fun c_22 => absurd c_22 (fun h => h (fun h2 => hb h2.symm)))
    refine g_aload_n O dX9_set_90 0 rfl rfl ?_
    refine g_callV (As := []) (wr := []) O (kX9_know l D z u0 u1 u2 u3 u4 u5 u6 u7 u8 u9 u10 u11 kn ik ty ta iw M Bf (by first | assumption | omega)) gX9_set_X9_know rfl rfl rfl 0 (by decide +kernel) (by decide) (by decide) (q0 := 0) rfl rfl rfl [0, 1, 2] [] rfl (by decide) rfl (by decide) (by decide) rfl rfl (Nat.le_of_ble_eq_true rfl) dX9_set_91 (fun r_23 w_24 hp => ?_)
    obtain ⟨rfl, rfl⟩ := hp
    refine g_eq (st' := []) (ws' := [(u0, .inr (9, [.ref u1, .ref u2, .ref u3, .ref u4, .ref u5, .ref u6, .int (nI (rhN kn)), .ref u7, .int (bB ik), .ref u8, .int (nI ty), .ref u9, .int (nI ta), .int (bB iw), .ref u10, .ref u11])), (u5, .inl ((TY D)[0].1, 208, .inl M)), (u6, .inl ((TY D)[0].1, 832, .inl (kwF Bf M kn)))]) rfl rfl rfl ?_
    refine g_aload_n O dX9_set_94 0 rfl rfl ?_
    refine g_get O hiX9_set_X9 0 rfl rfl 4 (by decide) (by decide +kernel) rfl dX9_set_95 ?_
    refine g_sipush (x := (nI 144)) O dX9_set_98 (by decide +kernel) ?_
    refine g_iload_n O dX9_set_101 1 rfl rfl ?_
    refine g_iaddN O dX9_set_102 ?_
    refine g_iload_n O dX9_set_103 2 rfl rfl ?_
    refine g_iastN (f' := (upd M (144 + 1) x)) (ws' := [(u0, .inr (9, [.ref u1, .ref u2, .ref u3, .ref u4, .ref u5, .ref u6, .int (nI (rhN kn)), .ref u7, .int (bB ik), .ref u8, .int (nI ty), .ref u9, .int (nI ta), .int (bB iw), .ref u10, .ref u11])), (u5, .inl ((TY D)[0].1, 208, .inl (upd M (144 + 1) x))), (u6, .inl ((TY D)[0].1, 832, .inl (kwF Bf M kn)))]) O 1 rfl (by omega) (by omega) dX9_set_104 rfl rfl ?_
    have hMf : RM (upd M (144 + 1) x) (s_se s (upd (sv_se s) 1 x)) := RM_wse hM (by omega)
    generalize (upd M (144 + 1) x) = M1 at hMf ⊢
    refine g_iload O dX9_set_105 5 rfl ?_
    exact E 107 _ (M (144 + 1)) _ dX9_set_107 (⟨_, hMf, rfl, rfl⟩)
  ·
    refine g_iload_n O dX9_set_0 1 rfl rfl ?_
    refine g_iconst (x := (nI 1)) O dX9_set_1 (by decide +kernel) ?_
    refine g_icmp_neN (tgt := 9) O (by omega) (by omega) dX9_set_2 (by decide) (fun c_25 => ?_) (fun c_25 => absurd c_25 (by decide))
    refine g_iload_n O dX9_set_9 1 rfl rfl ?_
    refine g_iconst (x := (nI 3)) O dX9_set_10 (by decide +kernel) ?_
    refine g_icmp_neN (tgt := 19) O (by omega) (by omega) dX9_set_11 (by decide) (fun c_26 => ?_) (fun c_26 => absurd c_26 (by decide))
    refine g_iconst (x := (nI 0)) O dX9_set_19 (by decide +kernel) ?_
    refine g_istore_n (L' := [(0, .ref u0), (1, .int (nI 2)), (2, .int x), (3, .int (nI 0))]) O dX9_set_20 rfl (by decide) [1, 2, 3, 0] rfl ?_
    refine g_iload_n O dX9_set_21 1 rfl rfl ?_
    refine g_iconst (x := (nI 1)) O dX9_set_22 (by decide +kernel) ?_
    refine g_icmp_neN (tgt := 32) O (by omega) (by omega) dX9_set_23 (by decide) (fun c_27 => ?_) (fun c_27 => absurd c_27 (by decide))
    refine g_iload_n O dX9_set_32 1 rfl rfl ?_
    refine g_iconst (x := (nI 3)) O dX9_set_33 (by decide +kernel) ?_
    refine g_icmp_neN (tgt := 43) O (by omega) (by omega) dX9_set_34 (by decide) (fun c_28 => ?_) (fun c_28 => absurd c_28 (by decide))
    refine g_bipush (x := (nI 60)) O dX9_set_43 (by decide +kernel) ?_
    refine g_istore (L' := [(0, .ref u0), (1, .int (nI 2)), (2, .int x), (3, .int (nI 0)), (4, .int (nI 60))]) O dX9_set_45 (by decide) [1, 2, 3, 4, 0] rfl ?_
    refine g_iload_n O dX9_set_47 1 rfl rfl ?_
    refine g_iconst (x := (nI 0)) O dX9_set_48 (by decide +kernel) ?_
    refine g_iconst (x := (nI 3)) O dX9_set_49 (by decide +kernel) ?_
    refine g_callS (As := [.int (nI 2), .int (nI 0), .int (nI 3)]) (wr := [(u0, .inr (9, [.ref u1, .ref u2, .ref u3, .ref u4, .ref u5, .ref u6, .int (nI kn), .ref u7, .int (bB ik), .ref u8, .int (nI ty), .ref u9, .int (nI ta), .int (bB iw), .ref u10, .ref u11])), (u5, .inl ((TY D)[0].1, 208, .inl M)), (u6, .inl ((TY D)[0].1, 832, .inl Bf))]) O (kX9_in l D z (nI 2) (nI 0) (nI 3) ) gX9_set_X9_in rfl rfl rfl 3 (by decide +kernel) (by decide) (by decide) [] [0, 1, 2] rfl (by decide) rfl (by decide) (by decide) rfl rfl (Nat.le_of_ble_eq_true rfl) dX9_set_50 (fun r_29 w_30 hp => ?_)
    obtain ⟨rfl, rfl⟩ := hp
    refine g_eq (st' := [.int (bB (inI (nI 2) (nI 0) (nI 3)))]) (ws' := [(u0, .inr (9, [.ref u1, .ref u2, .ref u3, .ref u4, .ref u5, .ref u6, .int (nI kn), .ref u7, .int (bB ik), .ref u8, .int (nI ty), .ref u9, .int (nI ta), .int (bB iw), .ref u10, .ref u11])), (u5, .inl ((TY D)[0].1, 208, .inl M)), (u6, .inl ((TY D)[0].1, 832, .inl Bf))]) rfl rfl rfl ?_
    refine g_eq (st' := [.int (bB (rgB (nI 2) 4))]) (by rw [inI_r _ (by decide)]) rfl rfl ?_
    refine g_if_eqB (tgt := 66) O dX9_set_53 (by decide) (fun c_31 => absurd c_31 (by decide)) (fun c_31 => ?_)
    refine g_iload_n O dX9_set_56 2 rfl rfl ?_
    refine g_iload_n O dX9_set_57 3 rfl rfl ?_
    refine g_iload O dX9_set_58 4 rfl ?_
    refine g_callS (As := [.int x, .int (nI 0), .int (nI 60)]) (wr := [(u0, .inr (9, [.ref u1, .ref u2, .ref u3, .ref u4, .ref u5, .ref u6, .int (nI kn), .ref u7, .int (bB ik), .ref u8, .int (nI ty), .ref u9, .int (nI ta), .int (bB iw), .ref u10, .ref u11])), (u5, .inl ((TY D)[0].1, 208, .inl M)), (u6, .inl ((TY D)[0].1, 832, .inl Bf))]) O (kX9_in l D z x (nI 0) (nI 60) ) gX9_set_X9_in rfl rfl rfl 3 (by decide +kernel) (by decide) (by decide) [] [0, 1, 2] rfl (by decide) rfl (by decide) (by decide) rfl rfl (Nat.le_of_ble_eq_true rfl) dX9_set_60 (fun r_32 w_33 hp => ?_)
    obtain ⟨rfl, rfl⟩ := hp
    refine g_eq (st' := [.int (bB (inI x (nI 0) (nI 60)))]) (ws' := [(u0, .inr (9, [.ref u1, .ref u2, .ref u3, .ref u4, .ref u5, .ref u6, .int (nI kn), .ref u7, .int (bB ik), .ref u8, .int (nI ty), .ref u9, .int (nI ta), .int (bB iw), .ref u10, .ref u11])), (u5, .inl ((TY D)[0].1, 208, .inl M)), (u6, .inl ((TY D)[0].1, 832, .inl Bf))]) rfl rfl rfl ?_
    refine g_if_neB (tgt := 69) O dX9_set_63 (by decide) (fun c_34 => ?_) (fun c_34 => absurd c_34 (by rw [inI_t (Int32.not_lt.mp h1) h2]; decide))
    refine g_aload_n O dX9_set_69 0 rfl rfl ?_
    refine g_get O hiX9_set_X9 0 rfl rfl 4 (by decide) (by decide +kernel) rfl dX9_set_70 ?_
    refine g_sipush (x := (nI 144)) O dX9_set_73 (by decide +kernel) ?_
    refine g_iload_n O dX9_set_76 1 rfl rfl ?_
    refine g_iaddN O dX9_set_77 ?_
    refine g_ialdN O 1 rfl (by omega) (by omega) dX9_set_78 ?_
    refine g_istore (L' := [(0, .ref u0), (1, .int (nI 2)), (2, .int x), (3, .int (nI 0)), (4, .int (nI 60)), (5, .int (M (144 + 2)))]) O dX9_set_79 (by decide) [1, 2, 3, 4, 5, 0] rfl ?_
    refine g_iload O dX9_set_81 5 rfl ?_
    refine g_iload_n O dX9_set_83 2 rfl rfl ?_
    refine g_icmp_ne (tgt := 90) O dX9_set_84 (by decide) (fun c_35 => ?_) (fun c_35 => absurd c_35 (fun h => h (fun h2 => hb h2.symm)))
    refine g_aload_n O dX9_set_90 0 rfl rfl ?_
    refine g_callV (As := []) (wr := []) O (kX9_know l D z u0 u1 u2 u3 u4 u5 u6 u7 u8 u9 u10 u11 kn ik ty ta iw M Bf (by first | assumption | omega)) gX9_set_X9_know rfl rfl rfl 0 (by decide +kernel) (by decide) (by decide) (q0 := 0) rfl rfl rfl [0, 1, 2] [] rfl (by decide) rfl (by decide) (by decide) rfl rfl (Nat.le_of_ble_eq_true rfl) dX9_set_91 (fun r_36 w_37 hp => ?_)
    obtain ⟨rfl, rfl⟩ := hp
    refine g_eq (st' := []) (ws' := [(u0, .inr (9, [.ref u1, .ref u2, .ref u3, .ref u4, .ref u5, .ref u6, .int (nI (rhN kn)), .ref u7, .int (bB ik), .ref u8, .int (nI ty), .ref u9, .int (nI ta), .int (bB iw), .ref u10, .ref u11])), (u5, .inl ((TY D)[0].1, 208, .inl M)), (u6, .inl ((TY D)[0].1, 832, .inl (kwF Bf M kn)))]) rfl rfl rfl ?_
    refine g_aload_n O dX9_set_94 0 rfl rfl ?_
    refine g_get O hiX9_set_X9 0 rfl rfl 4 (by decide) (by decide +kernel) rfl dX9_set_95 ?_
    refine g_sipush (x := (nI 144)) O dX9_set_98 (by decide +kernel) ?_
    refine g_iload_n O dX9_set_101 1 rfl rfl ?_
    refine g_iaddN O dX9_set_102 ?_
    refine g_iload_n O dX9_set_103 2 rfl rfl ?_
    refine g_iastN (f' := (upd M (144 + 2) x)) (ws' := [(u0, .inr (9, [.ref u1, .ref u2, .ref u3, .ref u4, .ref u5, .ref u6, .int (nI (rhN kn)), .ref u7, .int (bB ik), .ref u8, .int (nI ty), .ref u9, .int (nI ta), .int (bB iw), .ref u10, .ref u11])), (u5, .inl ((TY D)[0].1, 208, .inl (upd M (144 + 2) x))), (u6, .inl ((TY D)[0].1, 832, .inl (kwF Bf M kn)))]) O 1 rfl (by omega) (by omega) dX9_set_104 rfl rfl ?_
    have hMf : RM (upd M (144 + 2) x) (s_se s (upd (sv_se s) 2 x)) := RM_wse hM (by omega)
    generalize (upd M (144 + 2) x) = M1 at hMf ⊢
    refine g_iload O dX9_set_105 5 rfl ?_
    exact E 107 _ (M (144 + 2)) _ dX9_set_107 (⟨_, hMf, rfl, rfl⟩)
  ·
    refine g_iload_n O dX9_set_0 1 rfl rfl ?_
    refine g_iconst (x := (nI 1)) O dX9_set_1 (by decide +kernel) ?_
    refine g_icmp_neN (tgt := 9) O (by omega) (by omega) dX9_set_2 (by decide) (fun c_38 => ?_) (fun c_38 => absurd c_38 (by decide))
    refine g_iload_n O dX9_set_9 1 rfl rfl ?_
    refine g_iconst (x := (nI 3)) O dX9_set_10 (by decide +kernel) ?_
    refine g_icmp_neN (tgt := 19) O (by omega) (by omega) dX9_set_11 (by decide) (fun c_39 => absurd c_39 (by decide)) (fun c_39 => ?_)
    refine g_bipush (x := (nI 50)) O dX9_set_14 (by decide +kernel) ?_
    refine g_goto (tgt := 20) O dX9_set_16 (by decide) ?_
    refine g_istore_n (L' := [(0, .ref u0), (1, .int (nI 3)), (2, .int x), (3, .int (nI 50))]) O dX9_set_20 rfl (by decide) [1, 2, 3, 0] rfl ?_
    refine g_iload_n O dX9_set_21 1 rfl rfl ?_
    refine g_iconst (x := (nI 1)) O dX9_set_22 (by decide +kernel) ?_
    refine g_icmp_neN (tgt := 32) O (by omega) (by omega) dX9_set_23 (by decide) (fun c_40 => ?_) (fun c_40 => absurd c_40 (by decide))
    refine g_iload_n O dX9_set_32 1 rfl rfl ?_
    refine g_iconst (x := (nI 3)) O dX9_set_33 (by decide +kernel) ?_
    refine g_icmp_neN (tgt := 43) O (by omega) (by omega) dX9_set_34 (by decide) (fun c_41 => absurd c_41 (by decide)) (fun c_41 => ?_)
    refine g_sipush (x := (nI 201)) O dX9_set_37 (by decide +kernel) ?_
    refine g_goto (tgt := 45) O dX9_set_40 (by decide) ?_
    refine g_istore (L' := [(0, .ref u0), (1, .int (nI 3)), (2, .int x), (3, .int (nI 50)), (4, .int (nI 201))]) O dX9_set_45 (by decide) [1, 2, 3, 4, 0] rfl ?_
    refine g_iload_n O dX9_set_47 1 rfl rfl ?_
    refine g_iconst (x := (nI 0)) O dX9_set_48 (by decide +kernel) ?_
    refine g_iconst (x := (nI 3)) O dX9_set_49 (by decide +kernel) ?_
    refine g_callS (As := [.int (nI 3), .int (nI 0), .int (nI 3)]) (wr := [(u0, .inr (9, [.ref u1, .ref u2, .ref u3, .ref u4, .ref u5, .ref u6, .int (nI kn), .ref u7, .int (bB ik), .ref u8, .int (nI ty), .ref u9, .int (nI ta), .int (bB iw), .ref u10, .ref u11])), (u5, .inl ((TY D)[0].1, 208, .inl M)), (u6, .inl ((TY D)[0].1, 832, .inl Bf))]) O (kX9_in l D z (nI 3) (nI 0) (nI 3) ) gX9_set_X9_in rfl rfl rfl 3 (by decide +kernel) (by decide) (by decide) [] [0, 1, 2] rfl (by decide) rfl (by decide) (by decide) rfl rfl (Nat.le_of_ble_eq_true rfl) dX9_set_50 (fun r_42 w_43 hp => ?_)
    obtain ⟨rfl, rfl⟩ := hp
    refine g_eq (st' := [.int (bB (inI (nI 3) (nI 0) (nI 3)))]) (ws' := [(u0, .inr (9, [.ref u1, .ref u2, .ref u3, .ref u4, .ref u5, .ref u6, .int (nI kn), .ref u7, .int (bB ik), .ref u8, .int (nI ty), .ref u9, .int (nI ta), .int (bB iw), .ref u10, .ref u11])), (u5, .inl ((TY D)[0].1, 208, .inl M)), (u6, .inl ((TY D)[0].1, 832, .inl Bf))]) rfl rfl rfl ?_
    refine g_eq (st' := [.int (bB (rgB (nI 3) 4))]) (by rw [inI_r _ (by decide)]) rfl rfl ?_
    refine g_if_eqB (tgt := 66) O dX9_set_53 (by decide) (fun c_44 => absurd c_44 (by decide)) (fun c_44 => ?_)
    refine g_iload_n O dX9_set_56 2 rfl rfl ?_
    refine g_iload_n O dX9_set_57 3 rfl rfl ?_
    refine g_iload O dX9_set_58 4 rfl ?_
    refine g_callS (As := [.int x, .int (nI 50), .int (nI 201)]) (wr := [(u0, .inr (9, [.ref u1, .ref u2, .ref u3, .ref u4, .ref u5, .ref u6, .int (nI kn), .ref u7, .int (bB ik), .ref u8, .int (nI ty), .ref u9, .int (nI ta), .int (bB iw), .ref u10, .ref u11])), (u5, .inl ((TY D)[0].1, 208, .inl M)), (u6, .inl ((TY D)[0].1, 832, .inl Bf))]) O (kX9_in l D z x (nI 50) (nI 201) ) gX9_set_X9_in rfl rfl rfl 3 (by decide +kernel) (by decide) (by decide) [] [0, 1, 2] rfl (by decide) rfl (by decide) (by decide) rfl rfl (Nat.le_of_ble_eq_true rfl) dX9_set_60 (fun r_45 w_46 hp => ?_)
    obtain ⟨rfl, rfl⟩ := hp
    refine g_eq (st' := [.int (bB (inI x (nI 50) (nI 201)))]) (ws' := [(u0, .inr (9, [.ref u1, .ref u2, .ref u3, .ref u4, .ref u5, .ref u6, .int (nI kn), .ref u7, .int (bB ik), .ref u8, .int (nI ty), .ref u9, .int (nI ta), .int (bB iw), .ref u10, .ref u11])), (u5, .inl ((TY D)[0].1, 208, .inl M)), (u6, .inl ((TY D)[0].1, 832, .inl Bf))]) rfl rfl rfl ?_
    refine g_if_neB (tgt := 69) O dX9_set_63 (by decide) (fun c_47 => ?_) (fun c_47 => absurd c_47 (by rw [inI_t (Int32.not_lt.mp h1) h2]; decide))
    refine g_aload_n O dX9_set_69 0 rfl rfl ?_
    refine g_get O hiX9_set_X9 0 rfl rfl 4 (by decide) (by decide +kernel) rfl dX9_set_70 ?_
    refine g_sipush (x := (nI 144)) O dX9_set_73 (by decide +kernel) ?_
    refine g_iload_n O dX9_set_76 1 rfl rfl ?_
    refine g_iaddN O dX9_set_77 ?_
    refine g_ialdN O 1 rfl (by omega) (by omega) dX9_set_78 ?_
    refine g_istore (L' := [(0, .ref u0), (1, .int (nI 3)), (2, .int x), (3, .int (nI 50)), (4, .int (nI 201)), (5, .int (M (144 + 3)))]) O dX9_set_79 (by decide) [1, 2, 3, 4, 5, 0] rfl ?_
    refine g_iload O dX9_set_81 5 rfl ?_
    refine g_iload_n O dX9_set_83 2 rfl rfl ?_
    refine g_icmp_ne (tgt := 90) O dX9_set_84 (by decide) (fun c_48 => ?_) (fun c_48 => absurd c_48 (fun h => h (fun h2 => hb h2.symm)))
    refine g_aload_n O dX9_set_90 0 rfl rfl ?_
    refine g_callV (As := []) (wr := []) O (kX9_know l D z u0 u1 u2 u3 u4 u5 u6 u7 u8 u9 u10 u11 kn ik ty ta iw M Bf (by first | assumption | omega)) gX9_set_X9_know rfl rfl rfl 0 (by decide +kernel) (by decide) (by decide) (q0 := 0) rfl rfl rfl [0, 1, 2] [] rfl (by decide) rfl (by decide) (by decide) rfl rfl (Nat.le_of_ble_eq_true rfl) dX9_set_91 (fun r_49 w_50 hp => ?_)
    obtain ⟨rfl, rfl⟩ := hp
    refine g_eq (st' := []) (ws' := [(u0, .inr (9, [.ref u1, .ref u2, .ref u3, .ref u4, .ref u5, .ref u6, .int (nI (rhN kn)), .ref u7, .int (bB ik), .ref u8, .int (nI ty), .ref u9, .int (nI ta), .int (bB iw), .ref u10, .ref u11])), (u5, .inl ((TY D)[0].1, 208, .inl M)), (u6, .inl ((TY D)[0].1, 832, .inl (kwF Bf M kn)))]) rfl rfl rfl ?_
    refine g_aload_n O dX9_set_94 0 rfl rfl ?_
    refine g_get O hiX9_set_X9 0 rfl rfl 4 (by decide) (by decide +kernel) rfl dX9_set_95 ?_
    refine g_sipush (x := (nI 144)) O dX9_set_98 (by decide +kernel) ?_
    refine g_iload_n O dX9_set_101 1 rfl rfl ?_
    refine g_iaddN O dX9_set_102 ?_
    refine g_iload_n O dX9_set_103 2 rfl rfl ?_
    refine g_iastN (f' := (upd M (144 + 3) x)) (ws' := [(u0, .inr (9, [.ref u1, .ref u2, .ref u3, .ref u4, .ref u5, .ref u6, .int (nI (rhN kn)), .ref u7, .int (bB ik), .ref u8, .int (nI ty), .ref u9, .int (nI ta), .int (bB iw), .ref u10, .ref u11])), (u5, .inl ((TY D)[0].1, 208, .inl (upd M (144 + 3) x))), (u6, .inl ((TY D)[0].1, 832, .inl (kwF Bf M kn)))]) O 1 rfl (by omega) (by omega) dX9_set_104 rfl rfl ?_
    have hMf : RM (upd M (144 + 3) x) (s_se s (upd (sv_se s) 3 x)) := RM_wse hM (by omega)
    generalize (upd M (144 + 3) x) = M1 at hMf ⊢
    refine g_iload O dX9_set_105 5 rfl ?_
    exact E 107 _ (M (144 + 3)) _ dX9_set_107 (⟨_, hMf, rfl, rfl⟩)

theorem hiX9_waits_X9 : ∀ w ∈ wsX90, w ∈ wsX9_waits := by decide +kernel
set_option maxHeartbeats 4000000 in
set_option maxRecDepth 100000 in
theorem kX9_waits (l : Launch) (D : va_G) (z : Nat × Nat × Nat) (u0 : Nat) (u1 : Nat) (u2 : Nat) (u3 : Nat) (u4 : Nat) (u5 : Nat) (u6 : Nat) (u7 : Nat) (u8 : Nat) (u9 : Nat) (u10 : Nat) (u11 : Nat) (kn : Nat) (ik : Bool) (ty : Nat) (ta : Nat) (iw : Bool) (M : Nat → Int32) (s : SV) (x : Nat) (y : Nat) (k : Nat) (hM : RM M s) (hb : sv_ps s < 16) (hnc : sv_nc s ≤ 4) : CM l yX9_waits wsX9_waits ({ frames := 0, cells := 0, slots := 0, locals := 0 } : Room) D z [.ref u0, .int (nI x), .int (nI y), .int (nI k)] [(u0, .inr (9, [.ref u1, .ref u2, .ref u3, .ref u4, .ref u5, .ref u6, .int (nI kn), .ref u7, .int (bB ik), .ref u8, .int (nI ty), .ref u9, .int (nI ta), .int (bB iw), .ref u10, .ref u11])), (u5, .inl ((TY D)[0].1, 208, .inl M))] (fun r_ w_ => ∃ (M9 : Nat → Int32), (RM M9 (mkS (sv_g s) (sv_cc s) (sv_cr s) (sv_nc s) (sv_se s) (upf (sv_fs s) (sv_ps s) x) (upf (sv_fa s) (sv_ps s) y) (upf (sv_fk s) (sv_ps s) k) (sv_ps s + 1) (sv_la s) (sv_st s) (sv_sw s) (sv_fl s) (sv_sk s) (sv_mu s))) ∧ r_ = some (.int (nI (sv_ps s + 1))) ∧ w_ = [(u0, .inr (9, [.ref u1, .ref u2, .ref u3, .ref u4, .ref u5, .ref u6, .int (nI kn), .ref u7, .int (bB ik), .ref u8, .int (nI ty), .ref u9, .int (nI ta), .int (bB iw), .ref u10, .ref u11])), (u5, .inl ((TY D)[0].1, 208, .inl M9))]) 0 0 := by
  refine CM_int (own := RX9) (cc := cX9_waits) (maxL := 5) (L0 := [(0, .ref u0), (1, .int (nI x)), (2, .int (nI y)), (3, .int (nI k))]) (by decide) rfl rfl (Nat.le_of_ble_eq_true rfl) rfl (fun X O E => ?_)
  refine g_sipush (x := (nI 160)) O dX9_waits_0 (by decide +kernel) ?_
  refine g_iconst (x := (nI 3)) O dX9_waits_3 (by decide +kernel) ?_
  refine g_aload_n O dX9_waits_4 0 rfl rfl ?_
  refine g_get O hiX9_waits_X9 0 rfl rfl 4 (by decide) (by decide +kernel) rfl dX9_waits_5 ?_
  refine g_sipush (x := (nI 159)) O dX9_waits_8 (by decide +kernel) ?_
  refine g_ialdN O 1 rfl (by omega) (by omega) dX9_waits_11 ?_
  refine g_eq (st' := [.int (nI (sv_ps s)), .int (nI 3), .int (nI 160)]) (by rw [RM_ps hM]) rfl rfl ?_
  refine g_imulN O dX9_waits_12 ?_
  refine g_iaddN O dX9_waits_13 ?_
  refine g_istore (L' := [(0, .ref u0), (1, .int (nI x)), (2, .int (nI y)), (3, .int (nI k)), (4, .int (nI (160 + (3 * (sv_ps s)))))]) O dX9_waits_14 (by decide) [1, 2, 3, 4, 0] rfl ?_
  refine g_aload_n O dX9_waits_16 0 rfl rfl ?_
  refine g_get O hiX9_waits_X9 0 rfl rfl 4 (by decide) (by decide +kernel) rfl dX9_waits_17 ?_
  refine g_iload O dX9_waits_20 4 rfl ?_
  refine g_iload_n O dX9_waits_22 1 rfl rfl ?_
  refine g_iastN (f' := (upd M (160 + (3 * (sv_ps s))) (nI x))) (ws' := [(u0, .inr (9, [.ref u1, .ref u2, .ref u3, .ref u4, .ref u5, .ref u6, .int (nI kn), .ref u7, .int (bB ik), .ref u8, .int (nI ty), .ref u9, .int (nI ta), .int (bB iw), .ref u10, .ref u11])), (u5, .inl ((TY D)[0].1, 208, .inl (upd M (160 + (3 * (sv_ps s))) (nI x))))]) O 1 rfl (by omega) (by omega) dX9_waits_23 rfl rfl ?_
  have hM1 : RM (upd M (160 + (3 * (sv_ps s))) (nI x)) s := RM_stB hM (by omega) hnc
  have hv1 : (upd M (160 + (3 * (sv_ps s))) (nI x)) (160 + 3 * sv_ps s) = nI x := pk_us
  generalize (upd M (160 + (3 * (sv_ps s))) (nI x)) = M1 at hM1 hv1 ⊢
  refine g_aload_n O dX9_waits_24 0 rfl rfl ?_
  refine g_get O hiX9_waits_X9 0 rfl rfl 4 (by decide) (by decide +kernel) rfl dX9_waits_25 ?_
  refine g_iload O dX9_waits_28 4 rfl ?_
  refine g_iconst (x := (nI 1)) O dX9_waits_30 (by decide +kernel) ?_
  refine g_iaddN O dX9_waits_31 ?_
  refine g_iload_n O dX9_waits_32 2 rfl rfl ?_
  refine g_iastN (f' := (upd M1 ((160 + (3 * (sv_ps s))) + 1) (nI y))) (ws' := [(u0, .inr (9, [.ref u1, .ref u2, .ref u3, .ref u4, .ref u5, .ref u6, .int (nI kn), .ref u7, .int (bB ik), .ref u8, .int (nI ty), .ref u9, .int (nI ta), .int (bB iw), .ref u10, .ref u11])), (u5, .inl ((TY D)[0].1, 208, .inl (upd M1 ((160 + (3 * (sv_ps s))) + 1) (nI y))))]) O 1 rfl (by omega) (by omega) dX9_waits_33 rfl rfl ?_
  have hM2 : RM (upd M1 ((160 + (3 * (sv_ps s))) + 1) (nI y)) s := RM_stB hM1 (by omega) hnc
  have hv2 : (upd M1 ((160 + (3 * (sv_ps s))) + 1) (nI y)) (160 + 3 * sv_ps s + 1) = nI y := pk_us
  have hv1b : (upd M1 ((160 + (3 * (sv_ps s))) + 1) (nI y)) (160 + 3 * sv_ps s) = nI x := by rw [pk_un (by omega)]; exact hv1
  generalize (upd M1 ((160 + (3 * (sv_ps s))) + 1) (nI y)) = M2 at hM2 hv2 hv1b ⊢
  refine g_aload_n O dX9_waits_34 0 rfl rfl ?_
  refine g_get O hiX9_waits_X9 0 rfl rfl 4 (by decide) (by decide +kernel) rfl dX9_waits_35 ?_
  refine g_iload O dX9_waits_38 4 rfl ?_
  refine g_iconst (x := (nI 2)) O dX9_waits_40 (by decide +kernel) ?_
  refine g_iaddN O dX9_waits_41 ?_
  refine g_iload_n O dX9_waits_42 3 rfl rfl ?_
  refine g_iastN (f' := (upd M2 ((160 + (3 * (sv_ps s))) + 2) (nI k))) (ws' := [(u0, .inr (9, [.ref u1, .ref u2, .ref u3, .ref u4, .ref u5, .ref u6, .int (nI kn), .ref u7, .int (bB ik), .ref u8, .int (nI ty), .ref u9, .int (nI ta), .int (bB iw), .ref u10, .ref u11])), (u5, .inl ((TY D)[0].1, 208, .inl (upd M2 ((160 + (3 * (sv_ps s))) + 2) (nI k))))]) O 1 rfl (by omega) (by omega) dX9_waits_43 rfl rfl ?_
  have hM3 : RM (upd M2 ((160 + (3 * (sv_ps s))) + 2) (nI k)) s := RM_stB hM2 (by omega) hnc
  have hv3 : (upd M2 ((160 + (3 * (sv_ps s))) + 2) (nI k)) (160 + 3 * sv_ps s + 2) = nI k := pk_us
  have hv2c : (upd M2 ((160 + (3 * (sv_ps s))) + 2) (nI k)) (160 + 3 * sv_ps s + 1) = nI y := by rw [pk_un (by omega)]; exact hv2
  have hv1c : (upd M2 ((160 + (3 * (sv_ps s))) + 2) (nI k)) (160 + 3 * sv_ps s) = nI x := by rw [pk_un (by omega)]; exact hv1b
  generalize (upd M2 ((160 + (3 * (sv_ps s))) + 2) (nI k)) = M3 at hM3 hv3 hv2c hv1c ⊢
  refine g_aload_n O dX9_waits_44 0 rfl rfl ?_
  refine g_get O hiX9_waits_X9 0 rfl rfl 4 (by decide) (by decide +kernel) rfl dX9_waits_45 ?_
  refine g_sipush (x := (nI 159)) O dX9_waits_48 (by decide +kernel) ?_
  refine g_dup2 O dX9_waits_51 rfl rfl ?_
  refine g_ialdN O 1 rfl (by omega) (by omega) dX9_waits_52 ?_
  refine g_eq (st' := [.int (nI (sv_ps s)), .int (nI 159), .ref u5]) (by rw [RM_ps hM3]) rfl rfl ?_
  refine g_iconst (x := (nI 1)) O dX9_waits_53 (by decide +kernel) ?_
  refine g_iaddN O dX9_waits_54 ?_
  refine g_iastN (f' := (upd M3 159 (nI ((sv_ps s) + 1)))) (ws' := [(u0, .inr (9, [.ref u1, .ref u2, .ref u3, .ref u4, .ref u5, .ref u6, .int (nI kn), .ref u7, .int (bB ik), .ref u8, .int (nI ty), .ref u9, .int (nI ta), .int (bB iw), .ref u10, .ref u11])), (u5, .inl ((TY D)[0].1, 208, .inl (upd M3 159 (nI ((sv_ps s) + 1)))))]) O 1 rfl (by omega) (by omega) dX9_waits_55 rfl rfl ?_
  have hMf : RM (upd M3 159 (nI ((sv_ps s) + 1))) (s_pc s (upf (sv_fs s) (sv_ps s) x) (upf (sv_fa s) (sv_ps s) y) (upf (sv_fk s) (sv_ps s) k) (sv_ps s + 1)) := RM_wps hM3 hnc hv1c hv2c hv3
  generalize (upd M3 159 (nI ((sv_ps s) + 1))) = M4 at hMf ⊢
  refine g_aload_n O dX9_waits_56 0 rfl rfl ?_
  refine g_get O hiX9_waits_X9 0 rfl rfl 4 (by decide) (by decide +kernel) rfl dX9_waits_57 ?_
  refine g_sipush (x := (nI 159)) O dX9_waits_60 (by decide +kernel) ?_
  refine g_ialdN O 1 rfl (by omega) (by omega) dX9_waits_63 ?_
  refine g_eq (st' := [.int (nI (sv_ps (s_pc s (upf (sv_fs s) (sv_ps s) x) (upf (sv_fa s) (sv_ps s) y) (upf (sv_fk s) (sv_ps s) k) (sv_ps s + 1))))]) (by rw [RM_ps hMf]) rfl rfl ?_
  refine g_eq (st' := [.int (nI (sv_ps s + 1))]) rfl rfl rfl ?_
  exact E 64 _ (nI (sv_ps s + 1)) _ dX9_waits_64 (⟨_, hMf, rfl, rfl⟩)

set_option maxHeartbeats 4000000 in
set_option maxRecDepth 100000 in
theorem kX9_bow_b1 (l : Launch) (D : va_G) (z : Nat × Nat × Nat) (u0 : Nat) (u1 : Nat) (u2 : Nat) (u3 : Nat) (u4 : Nat) (u5 : Nat) (u6 : Nat) (u7 : Nat) (u8 : Nat) (u9 : Nat) (u10 : Nat) (u11 : Nat) (kn : Nat) (ik : Bool) (ty : Nat) (ta : Nat) (iw : Bool) (x : Int32) (y : Int32) (k : Int32) (hb : (rgB x 4 && rgB y 12) = false) : CM l yX9_bow wsX9_bow ({ frames := 2, cells := 0, slots := 0, locals := 43 } : Room) D z [.ref u0, .int x, .int y, .int k] [(u0, .inr (9, [.ref u1, .ref u2, .ref u3, .ref u4, .ref u5, .ref u6, .int (nI kn), .ref u7, .int (bB ik), .ref u8, .int (nI ty), .ref u9, .int (nI ta), .int (bB iw), .ref u10, .ref u11]))] (fun r_ w_ => r_ = some (.int (-1)) ∧ w_ = [(u0, .inr (9, [.ref u1, .ref u2, .ref u3, .ref u4, .ref u5, .ref u6, .int (nI kn), .ref u7, .int (bB ik), .ref u8, .int (nI ty), .ref u9, .int (nI ta), .int (bB iw), .ref u10, .ref u11]))]) 0 0 := by
  refine CM_int (own := RX9) (cc := cX9_bow) (maxL := 4) (L0 := [(0, .ref u0), (1, .int x), (2, .int y), (3, .int k)]) (by decide) rfl rfl (Nat.le_of_ble_eq_true rfl) rfl (fun X O E => ?_)
  refine g_iload_n O dX9_bow_0 1 rfl rfl ?_
  refine g_iload_n O dX9_bow_1 2 rfl rfl ?_
  refine g_callS (As := [.int x, .int y]) (wr := [(u0, .inr (9, [.ref u1, .ref u2, .ref u3, .ref u4, .ref u5, .ref u6, .int (nI kn), .ref u7, .int (bB ik), .ref u8, .int (nI ty), .ref u9, .int (nI ta), .int (bB iw), .ref u10, .ref u11]))]) O (kX9_isBow l D z x y ) gX9_bow_X9_isBow rfl rfl rfl 2 (by decide +kernel) (by decide) (by decide) [] [0] rfl (by decide) rfl (by decide) (by decide) rfl rfl (Nat.le_of_ble_eq_true rfl) dX9_bow_2 (fun r_1 w_2 hp => ?_)
  obtain ⟨rfl, rfl⟩ := hp
  refine g_eq (st' := [.int (bB (rgB x 4 && rgB y 12))]) (ws' := [(u0, .inr (9, [.ref u1, .ref u2, .ref u3, .ref u4, .ref u5, .ref u6, .int (nI kn), .ref u7, .int (bB ik), .ref u8, .int (nI ty), .ref u9, .int (nI ta), .int (bB iw), .ref u10, .ref u11]))]) rfl rfl rfl ?_
  refine g_if_neB (tgt := 10) O dX9_bow_5 (by decide) (fun c_3 => absurd c_3 (by rw [hb]; decide)) (fun c_3 => ?_)
  refine g_iconst (x := (-1)) O dX9_bow_8 (by decide +kernel) ?_
  exact E 9 _ (-1) _ dX9_bow_9 ⟨rfl, rfl⟩

set_option maxHeartbeats 4000000 in
set_option maxRecDepth 100000 in
theorem kX9_bow_b2 (l : Launch) (D : va_G) (z : Nat × Nat × Nat) (u0 : Nat) (u1 : Nat) (u2 : Nat) (u3 : Nat) (u4 : Nat) (u5 : Nat) (u6 : Nat) (u7 : Nat) (u8 : Nat) (u9 : Nat) (u10 : Nat) (u11 : Nat) (kn : Nat) (ik : Bool) (ty : Nat) (ta : Nat) (iw : Bool) (x : Nat) (y : Nat) (k : Int32) (hx : x < 4) (hy : y < 12) (hb : k < nI 1 ∨ nI 20 < k) : CM l yX9_bow wsX9_bow ({ frames := 2, cells := 0, slots := 0, locals := 43 } : Room) D z [.ref u0, .int (nI x), .int (nI y), .int k] [(u0, .inr (9, [.ref u1, .ref u2, .ref u3, .ref u4, .ref u5, .ref u6, .int (nI kn), .ref u7, .int (bB ik), .ref u8, .int (nI ty), .ref u9, .int (nI ta), .int (bB iw), .ref u10, .ref u11]))] (fun r_ w_ => r_ = some (.int (-2)) ∧ w_ = [(u0, .inr (9, [.ref u1, .ref u2, .ref u3, .ref u4, .ref u5, .ref u6, .int (nI kn), .ref u7, .int (bB ik), .ref u8, .int (nI ty), .ref u9, .int (nI ta), .int (bB iw), .ref u10, .ref u11]))]) 0 0 := by
  refine CM_int (own := RX9) (cc := cX9_bow) (maxL := 4) (L0 := [(0, .ref u0), (1, .int (nI x)), (2, .int (nI y)), (3, .int k)]) (by decide) rfl rfl (Nat.le_of_ble_eq_true rfl) rfl (fun X O E => ?_)
  refine g_iload_n O dX9_bow_0 1 rfl rfl ?_
  refine g_iload_n O dX9_bow_1 2 rfl rfl ?_
  refine g_callS (As := [.int (nI x), .int (nI y)]) (wr := [(u0, .inr (9, [.ref u1, .ref u2, .ref u3, .ref u4, .ref u5, .ref u6, .int (nI kn), .ref u7, .int (bB ik), .ref u8, .int (nI ty), .ref u9, .int (nI ta), .int (bB iw), .ref u10, .ref u11]))]) O (kX9_isBow l D z (nI x) (nI y) ) gX9_bow_X9_isBow rfl rfl rfl 2 (by decide +kernel) (by decide) (by decide) [] [0] rfl (by decide) rfl (by decide) (by decide) rfl rfl (Nat.le_of_ble_eq_true rfl) dX9_bow_2 (fun r_1 w_2 hp => ?_)
  obtain ⟨rfl, rfl⟩ := hp
  refine g_eq (st' := [.int (bB (rgB (nI x) 4 && rgB (nI y) 12))]) (ws' := [(u0, .inr (9, [.ref u1, .ref u2, .ref u3, .ref u4, .ref u5, .ref u6, .int (nI kn), .ref u7, .int (bB ik), .ref u8, .int (nI ty), .ref u9, .int (nI ta), .int (bB iw), .ref u10, .ref u11]))]) rfl rfl rfl ?_
  refine g_if_neB (tgt := 10) O dX9_bow_5 (by decide) (fun c_3 => ?_) (fun c_3 => absurd c_3 (by rw [rgB_t hx (by decide), rgB_t hy (by decide)]; decide))
  refine g_iload_n O dX9_bow_10 3 rfl rfl ?_
  refine g_iconst (x := (nI 1)) O dX9_bow_11 (by decide +kernel) ?_
  refine g_bipush (x := (nI 20)) O dX9_bow_12 (by decide +kernel) ?_
  refine g_callS (As := [.int k, .int (nI 1), .int (nI 20)]) (wr := [(u0, .inr (9, [.ref u1, .ref u2, .ref u3, .ref u4, .ref u5, .ref u6, .int (nI kn), .ref u7, .int (bB ik), .ref u8, .int (nI ty), .ref u9, .int (nI ta), .int (bB iw), .ref u10, .ref u11]))]) O (kX9_in l D z k (nI 1) (nI 20) ) gX9_bow_X9_in rfl rfl rfl 3 (by decide +kernel) (by decide) (by decide) [] [0] rfl (by decide) rfl (by decide) (by decide) rfl rfl (Nat.le_of_ble_eq_true rfl) dX9_bow_14 (fun r_4 w_5 hp => ?_)
  obtain ⟨rfl, rfl⟩ := hp
  refine g_eq (st' := [.int (bB (inI k (nI 1) (nI 20)))]) (ws' := [(u0, .inr (9, [.ref u1, .ref u2, .ref u3, .ref u4, .ref u5, .ref u6, .int (nI kn), .ref u7, .int (bB ik), .ref u8, .int (nI ty), .ref u9, .int (nI ta), .int (bB iw), .ref u10, .ref u11]))]) rfl rfl rfl ?_
  refine g_if_neB (tgt := 23) O dX9_bow_17 (by decide) (fun c_6 => absurd c_6 (by rw [inI_f hb]; decide)) (fun c_6 => ?_)
  refine g_bipush (x := (-2)) O dX9_bow_20 (by decide +kernel) ?_
  exact E 22 _ (-2) _ dX9_bow_22 ⟨rfl, rfl⟩

theorem hiX9_bow_X9 : ∀ w ∈ wsX90, w ∈ wsX9_bow := by decide +kernel
set_option maxHeartbeats 4000000 in
set_option maxRecDepth 100000 in
theorem kX9_bow_b3 (l : Launch) (D : va_G) (z : Nat × Nat × Nat) (u0 : Nat) (u1 : Nat) (u2 : Nat) (u3 : Nat) (u4 : Nat) (u5 : Nat) (u6 : Nat) (u7 : Nat) (u8 : Nat) (u9 : Nat) (u10 : Nat) (u11 : Nat) (kn : Nat) (ik : Bool) (ty : Nat) (ta : Nat) (iw : Bool) (M : Nat → Int32) (s : SV) (x : Nat) (y : Nat) (k : Nat) (hx : x < 4) (hy : y < 12) (hk1 : 1 ≤ k) (hk2 : k ≤ 20) (hM : RM M s) (hb : sv_ps s = 16) : CM l yX9_bow wsX9_bow ({ frames := 2, cells := 0, slots := 0, locals := 43 } : Room) D z [.ref u0, .int (nI x), .int (nI y), .int (nI k)] [(u0, .inr (9, [.ref u1, .ref u2, .ref u3, .ref u4, .ref u5, .ref u6, .int (nI kn), .ref u7, .int (bB ik), .ref u8, .int (nI ty), .ref u9, .int (nI ta), .int (bB iw), .ref u10, .ref u11])), (u5, .inl ((TY D)[0].1, 208, .inl M))] (fun r_ w_ => r_ = some (.int (-3)) ∧ w_ = [(u0, .inr (9, [.ref u1, .ref u2, .ref u3, .ref u4, .ref u5, .ref u6, .int (nI kn), .ref u7, .int (bB ik), .ref u8, .int (nI ty), .ref u9, .int (nI ta), .int (bB iw), .ref u10, .ref u11])), (u5, .inl ((TY D)[0].1, 208, .inl M))]) 0 0 := by
  refine CM_int (own := RX9) (cc := cX9_bow) (maxL := 4) (L0 := [(0, .ref u0), (1, .int (nI x)), (2, .int (nI y)), (3, .int (nI k))]) (by decide) rfl rfl (Nat.le_of_ble_eq_true rfl) rfl (fun X O E => ?_)
  refine g_iload_n O dX9_bow_0 1 rfl rfl ?_
  refine g_iload_n O dX9_bow_1 2 rfl rfl ?_
  refine g_callS (As := [.int (nI x), .int (nI y)]) (wr := [(u0, .inr (9, [.ref u1, .ref u2, .ref u3, .ref u4, .ref u5, .ref u6, .int (nI kn), .ref u7, .int (bB ik), .ref u8, .int (nI ty), .ref u9, .int (nI ta), .int (bB iw), .ref u10, .ref u11])), (u5, .inl ((TY D)[0].1, 208, .inl M))]) O (kX9_isBow l D z (nI x) (nI y) ) gX9_bow_X9_isBow rfl rfl rfl 2 (by decide +kernel) (by decide) (by decide) [] [0, 1] rfl (by decide) rfl (by decide) (by decide) rfl rfl (Nat.le_of_ble_eq_true rfl) dX9_bow_2 (fun r_1 w_2 hp => ?_)
  obtain ⟨rfl, rfl⟩ := hp
  refine g_eq (st' := [.int (bB (rgB (nI x) 4 && rgB (nI y) 12))]) (ws' := [(u0, .inr (9, [.ref u1, .ref u2, .ref u3, .ref u4, .ref u5, .ref u6, .int (nI kn), .ref u7, .int (bB ik), .ref u8, .int (nI ty), .ref u9, .int (nI ta), .int (bB iw), .ref u10, .ref u11])), (u5, .inl ((TY D)[0].1, 208, .inl M))]) rfl rfl rfl ?_
  refine g_if_neB (tgt := 10) O dX9_bow_5 (by decide) (fun c_3 => ?_) (fun c_3 => absurd c_3 (by rw [rgB_t hx (by decide), rgB_t hy (by decide)]; decide))
  refine g_iload_n O dX9_bow_10 3 rfl rfl ?_
  refine g_iconst (x := (nI 1)) O dX9_bow_11 (by decide +kernel) ?_
  refine g_bipush (x := (nI 20)) O dX9_bow_12 (by decide +kernel) ?_
  refine g_callS (As := [.int (nI k), .int (nI 1), .int (nI 20)]) (wr := [(u0, .inr (9, [.ref u1, .ref u2, .ref u3, .ref u4, .ref u5, .ref u6, .int (nI kn), .ref u7, .int (bB ik), .ref u8, .int (nI ty), .ref u9, .int (nI ta), .int (bB iw), .ref u10, .ref u11])), (u5, .inl ((TY D)[0].1, 208, .inl M))]) O (kX9_in l D z (nI k) (nI 1) (nI 20) ) gX9_bow_X9_in rfl rfl rfl 3 (by decide +kernel) (by decide) (by decide) [] [0, 1] rfl (by decide) rfl (by decide) (by decide) rfl rfl (Nat.le_of_ble_eq_true rfl) dX9_bow_14 (fun r_4 w_5 hp => ?_)
  obtain ⟨rfl, rfl⟩ := hp
  refine g_eq (st' := [.int (bB (inI (nI k) (nI 1) (nI 20)))]) (ws' := [(u0, .inr (9, [.ref u1, .ref u2, .ref u3, .ref u4, .ref u5, .ref u6, .int (nI kn), .ref u7, .int (bB ik), .ref u8, .int (nI ty), .ref u9, .int (nI ta), .int (bB iw), .ref u10, .ref u11])), (u5, .inl ((TY D)[0].1, 208, .inl M))]) rfl rfl rfl ?_
  refine g_if_neB (tgt := 23) O dX9_bow_17 (by decide) (fun c_6 => ?_) (fun c_6 => absurd c_6 (by rw [inI_t (nI_le (a := 1) (by omega) (by omega)) (nI_le (b := 20) (by omega) (by omega))]; decide))
  refine g_aload_n O dX9_bow_23 0 rfl rfl ?_
  refine g_get O hiX9_bow_X9 0 rfl rfl 4 (by decide) (by decide +kernel) rfl dX9_bow_24 ?_
  refine g_sipush (x := (nI 159)) O dX9_bow_27 (by decide +kernel) ?_
  refine g_ialdN O 1 rfl (by omega) (by omega) dX9_bow_30 ?_
  refine g_eq (st' := [.int (nI (sv_ps s))]) (by rw [RM_ps hM]) rfl rfl ?_
  refine g_bipush (x := (nI 16)) O dX9_bow_31 (by decide +kernel) ?_
  refine g_icmp_neN (tgt := 39) O (by omega) (by omega) dX9_bow_33 (by decide) (fun c_7 => absurd c_7 (fun h => h hb)) (fun c_7 => ?_)
  refine g_bipush (x := (-3)) O dX9_bow_36 (by decide +kernel) ?_
  exact E 38 _ (-3) _ dX9_bow_38 ⟨rfl, rfl⟩

set_option maxHeartbeats 4000000 in
set_option maxRecDepth 100000 in
theorem kX9_bow_ok (l : Launch) (D : va_G) (z : Nat × Nat × Nat) (u0 : Nat) (u1 : Nat) (u2 : Nat) (u3 : Nat) (u4 : Nat) (u5 : Nat) (u6 : Nat) (u7 : Nat) (u8 : Nat) (u9 : Nat) (u10 : Nat) (u11 : Nat) (kn : Nat) (ik : Bool) (ty : Nat) (ta : Nat) (iw : Bool) (M : Nat → Int32) (Bf : Nat → Int32) (s : SV) (x : Nat) (y : Nat) (k : Nat) (hM : RM M s) (hkn : kn ≤ 4) (hx : x < 4) (hy : y < 12) (hk1 : 1 ≤ k) (hk2 : k ≤ 20) (hb : sv_ps s < 16) (hnc : sv_nc s ≤ 4) : CM l yX9_bow wsX9_bow ({ frames := 2, cells := 0, slots := 0, locals := 43 } : Room) D z [.ref u0, .int (nI x), .int (nI y), .int (nI k)] [(u0, .inr (9, [.ref u1, .ref u2, .ref u3, .ref u4, .ref u5, .ref u6, .int (nI kn), .ref u7, .int (bB ik), .ref u8, .int (nI ty), .ref u9, .int (nI ta), .int (bB iw), .ref u10, .ref u11])), (u5, .inl ((TY D)[0].1, 208, .inl M)), (u6, .inl ((TY D)[0].1, 832, .inl Bf))] (fun r_ w_ => ∃ (M9 : Nat → Int32), (RM M9 (mkS (sv_g s) (sv_cc s) (sv_cr s) (sv_nc s) (sv_se s) (upf (sv_fs s) (sv_ps s) x) (upf (sv_fa s) (sv_ps s) y) (upf (sv_fk s) (sv_ps s) k) (sv_ps s + 1) (sv_la s) (sv_st s) (sv_sw s) (sv_fl s) (sv_sk s) (sv_mu s))) ∧ r_ = some (.int (nI (sv_ps s + 1))) ∧ w_ = [(u0, .inr (9, [.ref u1, .ref u2, .ref u3, .ref u4, .ref u5, .ref u6, .int (nI (rhN kn)), .ref u7, .int (bB ik), .ref u8, .int (nI ty), .ref u9, .int (nI ta), .int (bB iw), .ref u10, .ref u11])), (u5, .inl ((TY D)[0].1, 208, .inl M9)), (u6, .inl ((TY D)[0].1, 832, .inl (kwF Bf M kn)))]) 0 0 := by
  refine CM_int (own := RX9) (cc := cX9_bow) (maxL := 4) (L0 := [(0, .ref u0), (1, .int (nI x)), (2, .int (nI y)), (3, .int (nI k))]) (by decide) rfl rfl (Nat.le_of_ble_eq_true rfl) rfl (fun X O E => ?_)
  refine g_iload_n O dX9_bow_0 1 rfl rfl ?_
  refine g_iload_n O dX9_bow_1 2 rfl rfl ?_
  refine g_callS (As := [.int (nI x), .int (nI y)]) (wr := [(u0, .inr (9, [.ref u1, .ref u2, .ref u3, .ref u4, .ref u5, .ref u6, .int (nI kn), .ref u7, .int (bB ik), .ref u8, .int (nI ty), .ref u9, .int (nI ta), .int (bB iw), .ref u10, .ref u11])), (u5, .inl ((TY D)[0].1, 208, .inl M)), (u6, .inl ((TY D)[0].1, 832, .inl Bf))]) O (kX9_isBow l D z (nI x) (nI y) ) gX9_bow_X9_isBow rfl rfl rfl 2 (by decide +kernel) (by decide) (by decide) [] [0, 1, 2] rfl (by decide) rfl (by decide) (by decide) rfl rfl (Nat.le_of_ble_eq_true rfl) dX9_bow_2 (fun r_1 w_2 hp => ?_)
  obtain ⟨rfl, rfl⟩ := hp
  refine g_eq (st' := [.int (bB (rgB (nI x) 4 && rgB (nI y) 12))]) (ws' := [(u0, .inr (9, [.ref u1, .ref u2, .ref u3, .ref u4, .ref u5, .ref u6, .int (nI kn), .ref u7, .int (bB ik), .ref u8, .int (nI ty), .ref u9, .int (nI ta), .int (bB iw), .ref u10, .ref u11])), (u5, .inl ((TY D)[0].1, 208, .inl M)), (u6, .inl ((TY D)[0].1, 832, .inl Bf))]) rfl rfl rfl ?_
  refine g_if_neB (tgt := 10) O dX9_bow_5 (by decide) (fun c_3 => ?_) (fun c_3 => absurd c_3 (by rw [rgB_t hx (by decide), rgB_t hy (by decide)]; decide))
  refine g_iload_n O dX9_bow_10 3 rfl rfl ?_
  refine g_iconst (x := (nI 1)) O dX9_bow_11 (by decide +kernel) ?_
  refine g_bipush (x := (nI 20)) O dX9_bow_12 (by decide +kernel) ?_
  refine g_callS (As := [.int (nI k), .int (nI 1), .int (nI 20)]) (wr := [(u0, .inr (9, [.ref u1, .ref u2, .ref u3, .ref u4, .ref u5, .ref u6, .int (nI kn), .ref u7, .int (bB ik), .ref u8, .int (nI ty), .ref u9, .int (nI ta), .int (bB iw), .ref u10, .ref u11])), (u5, .inl ((TY D)[0].1, 208, .inl M)), (u6, .inl ((TY D)[0].1, 832, .inl Bf))]) O (kX9_in l D z (nI k) (nI 1) (nI 20) ) gX9_bow_X9_in rfl rfl rfl 3 (by decide +kernel) (by decide) (by decide) [] [0, 1, 2] rfl (by decide) rfl (by decide) (by decide) rfl rfl (Nat.le_of_ble_eq_true rfl) dX9_bow_14 (fun r_4 w_5 hp => ?_)
  obtain ⟨rfl, rfl⟩ := hp
  refine g_eq (st' := [.int (bB (inI (nI k) (nI 1) (nI 20)))]) (ws' := [(u0, .inr (9, [.ref u1, .ref u2, .ref u3, .ref u4, .ref u5, .ref u6, .int (nI kn), .ref u7, .int (bB ik), .ref u8, .int (nI ty), .ref u9, .int (nI ta), .int (bB iw), .ref u10, .ref u11])), (u5, .inl ((TY D)[0].1, 208, .inl M)), (u6, .inl ((TY D)[0].1, 832, .inl Bf))]) rfl rfl rfl ?_
  refine g_if_neB (tgt := 23) O dX9_bow_17 (by decide) (fun c_6 => ?_) (fun c_6 => absurd c_6 (by rw [inI_t (nI_le (a := 1) (by omega) (by omega)) (nI_le (b := 20) (by omega) (by omega))]; decide))
  refine g_aload_n O dX9_bow_23 0 rfl rfl ?_
  refine g_get O hiX9_bow_X9 0 rfl rfl 4 (by decide) (by decide +kernel) rfl dX9_bow_24 ?_
  refine g_sipush (x := (nI 159)) O dX9_bow_27 (by decide +kernel) ?_
  refine g_ialdN O 1 rfl (by omega) (by omega) dX9_bow_30 ?_
  refine g_eq (st' := [.int (nI (sv_ps s))]) (by rw [RM_ps hM]) rfl rfl ?_
  refine g_bipush (x := (nI 16)) O dX9_bow_31 (by decide +kernel) ?_
  refine g_icmp_neN (tgt := 39) O (by omega) (by omega) dX9_bow_33 (by decide) (fun c_7 => ?_) (fun c_7 => (by exfalso; omega))
  refine g_aload_n O dX9_bow_39 0 rfl rfl ?_
  refine g_callV (As := []) (wr := []) O (kX9_know l D z u0 u1 u2 u3 u4 u5 u6 u7 u8 u9 u10 u11 kn ik ty ta iw M Bf (by first | assumption | omega)) gX9_bow_X9_know rfl rfl rfl 0 (by decide +kernel) (by decide) (by decide) (q0 := 0) rfl rfl rfl [0, 1, 2] [] rfl (by decide) rfl (by decide) (by decide) rfl rfl (Nat.le_of_ble_eq_true rfl) dX9_bow_40 (fun r_8 w_9 hp => ?_)
  obtain ⟨rfl, rfl⟩ := hp
  refine g_eq (st' := []) (ws' := [(u0, .inr (9, [.ref u1, .ref u2, .ref u3, .ref u4, .ref u5, .ref u6, .int (nI (rhN kn)), .ref u7, .int (bB ik), .ref u8, .int (nI ty), .ref u9, .int (nI ta), .int (bB iw), .ref u10, .ref u11])), (u5, .inl ((TY D)[0].1, 208, .inl M)), (u6, .inl ((TY D)[0].1, 832, .inl (kwF Bf M kn)))]) rfl rfl rfl ?_
  refine g_aload_n O dX9_bow_43 0 rfl rfl ?_
  refine g_iload_n O dX9_bow_44 1 rfl rfl ?_
  refine g_iload_n O dX9_bow_45 2 rfl rfl ?_
  refine g_iload_n O dX9_bow_46 3 rfl rfl ?_
  refine g_callV (As := [.int (nI x), .int (nI y), .int (nI k)]) (wr := [(u6, .inl ((TY D)[0].1, 832, .inl (kwF Bf M kn)))]) O (kX9_waits l D z u0 u1 u2 u3 u4 u5 u6 u7 u8 u9 u10 u11 (rhN kn) ik ty ta iw M s x y k (by first | assumption | omega) (by first | assumption | omega) (by first | assumption | omega)) gX9_bow_X9_waits rfl rfl rfl 3 (by decide +kernel) (by decide) (by decide) (q0 := 0) rfl rfl rfl [0, 1] [2] rfl (by decide) rfl (by decide) (by decide) rfl rfl (Nat.le_of_ble_eq_true rfl) dX9_bow_47 (fun r_10 w_11 hp => ?_)
  obtain ⟨M9_12, hM9_13, rfl, rfl⟩ := hp
  refine g_eq (st' := [.int (nI (sv_ps s + 1))]) (ws' := [(u6, .inl ((TY D)[0].1, 832, .inl (kwF Bf M kn))), (u0, .inr (9, [.ref u1, .ref u2, .ref u3, .ref u4, .ref u5, .ref u6, .int (nI (rhN kn)), .ref u7, .int (bB ik), .ref u8, .int (nI ty), .ref u9, .int (nI ta), .int (bB iw), .ref u10, .ref u11])), (u5, .inl ((TY D)[0].1, 208, .inl M9_12))]) rfl rfl rfl ?_
  refine g_perm (ws' := [(u0, .inr (9, [.ref u1, .ref u2, .ref u3, .ref u4, .ref u5, .ref u6, .int (nI (rhN kn)), .ref u7, .int (bB ik), .ref u8, .int (nI ty), .ref u9, .int (nI ta), .int (bB iw), .ref u10, .ref u11])), (u5, .inl ((TY D)[0].1, 208, .inl M9_12)), (u6, .inl ((TY D)[0].1, 832, .inl (kwF Bf M kn)))]) [1, 2, 0] rfl (by decide) ?_
  exact E 50 _ (nI (sv_ps s + 1)) _ dX9_bow_50 (⟨_, hM9_13, rfl, rfl⟩)

theorem hiX9_type_X9 : ∀ w ∈ wsX90, w ∈ wsX9_type := by decide +kernel
set_option maxHeartbeats 4000000 in
set_option maxRecDepth 100000 in
theorem kX9_type_b1 (l : Launch) (D : va_G) (z : Nat × Nat × Nat) (u0 : Nat) (u1 : Nat) (u2 : Nat) (u3 : Nat) (u4 : Nat) (u5 : Nat) (u6 : Nat) (u7 : Nat) (u8 : Nat) (u9 : Nat) (u10 : Nat) (u11 : Nat) (kn : Nat) (ik : Bool) (ty : Nat) (ta : Nat) (iw : Bool) (x : Nat) (hb : ty = 60) : CM l yX9_type wsX9_type ({ frames := 0, cells := 0, slots := 0, locals := 0 } : Room) D z [.ref u0, .int (nI x)] [(u0, .inr (9, [.ref u1, .ref u2, .ref u3, .ref u4, .ref u5, .ref u6, .int (nI kn), .ref u7, .int (bB ik), .ref u8, .int (nI ty), .ref u9, .int (nI ta), .int (bB iw), .ref u10, .ref u11]))] (fun r_ w_ => r_ = some (.int (-3)) ∧ w_ = [(u0, .inr (9, [.ref u1, .ref u2, .ref u3, .ref u4, .ref u5, .ref u6, .int (nI kn), .ref u7, .int (bB ik), .ref u8, .int (nI ty), .ref u9, .int (nI ta), .int (bB iw), .ref u10, .ref u11]))]) 0 0 := by
  refine CM_int (own := RX9) (cc := cX9_type) (maxL := 2) (L0 := [(0, .ref u0), (1, .int (nI x))]) (by decide) rfl rfl (Nat.le_of_ble_eq_true rfl) rfl (fun X O E => ?_)
  refine g_aload_n O dX9_type_0 0 rfl rfl ?_
  refine g_get O hiX9_type_X9 0 rfl rfl 10 (by decide) (by decide +kernel) rfl dX9_type_1 ?_
  refine g_bipush (x := (nI 60)) O dX9_type_4 (by decide +kernel) ?_
  refine g_icmp_neN (tgt := 12) O (by omega) (by omega) dX9_type_6 (by decide) (fun c_1 => absurd c_1 (fun h => h hb)) (fun c_1 => ?_)
  refine g_bipush (x := (-3)) O dX9_type_9 (by decide +kernel) ?_
  exact E 11 _ (-3) _ dX9_type_11 ⟨rfl, rfl⟩

set_option maxHeartbeats 4000000 in
set_option maxRecDepth 100000 in
theorem kX9_type_ok (l : Launch) (D : va_G) (z : Nat × Nat × Nat) (u0 : Nat) (u1 : Nat) (u2 : Nat) (u3 : Nat) (u4 : Nat) (u5 : Nat) (u6 : Nat) (u7 : Nat) (u8 : Nat) (u9 : Nat) (u10 : Nat) (u11 : Nat) (kn : Nat) (ik : Bool) (ty : Nat) (ta : Nat) (iw : Bool) (tx : Nat → Nat) (x : Nat) (hb : ty < 60) : CM l yX9_type wsX9_type ({ frames := 0, cells := 0, slots := 0, locals := 0 } : Room) D z [.ref u0, .int (nI x)] [(u0, .inr (9, [.ref u1, .ref u2, .ref u3, .ref u4, .ref u5, .ref u6, .int (nI kn), .ref u7, .int (bB ik), .ref u8, .int (nI ty), .ref u9, .int (nI ta), .int (bB iw), .ref u10, .ref u11])), (u8, .inl ((TY D)[0].1, 60, .inl (nf tx)))] (fun r_ w_ => r_ = some (.int (nI (ty + 1))) ∧ w_ = [(u0, .inr (9, [.ref u1, .ref u2, .ref u3, .ref u4, .ref u5, .ref u6, .int (nI kn), .ref u7, .int (bB ik), .ref u8, .int (nI (ty + 1)), .ref u9, .int (nI ta), .int (bB iw), .ref u10, .ref u11])), (u8, .inl ((TY D)[0].1, 60, .inl (nf (upf tx ty x))))]) 0 0 := by
  refine CM_int (own := RX9) (cc := cX9_type) (maxL := 2) (L0 := [(0, .ref u0), (1, .int (nI x))]) (by decide) rfl rfl (Nat.le_of_ble_eq_true rfl) rfl (fun X O E => ?_)
  refine g_aload_n O dX9_type_0 0 rfl rfl ?_
  refine g_get O hiX9_type_X9 0 rfl rfl 10 (by decide) (by decide +kernel) rfl dX9_type_1 ?_
  refine g_bipush (x := (nI 60)) O dX9_type_4 (by decide +kernel) ?_
  refine g_icmp_neN (tgt := 12) O (by omega) (by omega) dX9_type_6 (by decide) (fun c_1 => ?_) (fun c_1 => (by exfalso; omega))
  refine g_aload_n O dX9_type_12 0 rfl rfl ?_
  refine g_get O hiX9_type_X9 0 rfl rfl 9 (by decide) (by decide +kernel) rfl dX9_type_13 ?_
  refine g_aload_n O dX9_type_16 0 rfl rfl ?_
  refine g_get O hiX9_type_X9 0 rfl rfl 10 (by decide) (by decide +kernel) rfl dX9_type_17 ?_
  refine g_iload_n O dX9_type_20 1 rfl rfl ?_
  refine g_iastN (f' := (nf (upf tx ty x))) (ws' := [(u0, .inr (9, [.ref u1, .ref u2, .ref u3, .ref u4, .ref u5, .ref u6, .int (nI kn), .ref u7, .int (bB ik), .ref u8, .int (nI ty), .ref u9, .int (nI ta), .int (bB iw), .ref u10, .ref u11])), (u8, .inl ((TY D)[0].1, 60, .inl (nf (upf tx ty x))))]) O 1 rfl (by omega) (by omega) dX9_type_21 (nf_upd _ _ _) rfl ?_
  refine g_aload_n O dX9_type_22 0 rfl rfl ?_
  refine g_dup O dX9_type_23 rfl ?_
  refine g_get O hiX9_type_X9 0 rfl rfl 10 (by decide) (by decide +kernel) rfl dX9_type_24 ?_
  refine g_iconst (x := (nI 1)) O dX9_type_27 (by decide +kernel) ?_
  refine g_iaddN O dX9_type_28 ?_
  refine g_put (ws' := [(u0, .inr (9, [.ref u1, .ref u2, .ref u3, .ref u4, .ref u5, .ref u6, .int (nI kn), .ref u7, .int (bB ik), .ref u8, .int (nI (ty + 1)), .ref u9, .int (nI ta), .int (bB iw), .ref u10, .ref u11])), (u8, .inl ((TY D)[0].1, 60, .inl (nf (upf tx ty x))))]) O hiX9_type_X9 tyX9 tyX9_ok nmX9 0 rfl rfl 10 (by decide) (by decide +kernel) rfl (tyX9_ok 10 (by decide)) rfl rfl (Nat.le_of_ble_eq_true rfl) dX9_type_29 rfl ?_
  refine g_aload_n O dX9_type_32 0 rfl rfl ?_
  refine g_get O hiX9_type_X9 0 rfl rfl 10 (by decide) (by decide +kernel) rfl dX9_type_33 ?_
  exact E 36 _ (nI (ty + 1)) _ dX9_type_36 ⟨rfl, rfl⟩

theorem hiX9_clearText_X9 : ∀ w ∈ wsX90, w ∈ wsX9_clearText := by decide +kernel
set_option maxHeartbeats 4000000 in
set_option maxRecDepth 100000 in
theorem kX9_clearText (l : Launch) (D : va_G) (z : Nat × Nat × Nat) (u0 : Nat) (u1 : Nat) (u2 : Nat) (u3 : Nat) (u4 : Nat) (u5 : Nat) (u6 : Nat) (u7 : Nat) (u8 : Nat) (u9 : Nat) (u10 : Nat) (u11 : Nat) (kn : Nat) (ik : Bool) (ty : Nat) (ta : Nat) (iw : Bool)  : CM l yX9_clearText wsX9_clearText ({ frames := 0, cells := 0, slots := 0, locals := 0 } : Room) D z [.ref u0] [(u0, .inr (9, [.ref u1, .ref u2, .ref u3, .ref u4, .ref u5, .ref u6, .int (nI kn), .ref u7, .int (bB ik), .ref u8, .int (nI ty), .ref u9, .int (nI ta), .int (bB iw), .ref u10, .ref u11]))] (fun r_ w_ => r_ = some (.int (nI ty)) ∧ w_ = [(u0, .inr (9, [.ref u1, .ref u2, .ref u3, .ref u4, .ref u5, .ref u6, .int (nI kn), .ref u7, .int (bB ik), .ref u8, .int (nI 0), .ref u9, .int (nI ta), .int (bB iw), .ref u10, .ref u11]))]) 0 0 := by
  refine CM_int (own := RX9) (cc := cX9_clearText) (maxL := 2) (L0 := [(0, .ref u0)]) (by decide) rfl rfl (Nat.le_of_ble_eq_true rfl) rfl (fun X O E => ?_)
  refine g_aload_n O dX9_clearText_0 0 rfl rfl ?_
  refine g_get O hiX9_clearText_X9 0 rfl rfl 10 (by decide) (by decide +kernel) rfl dX9_clearText_1 ?_
  refine g_istore_n (L' := [(0, .ref u0), (1, .int (nI ty))]) O dX9_clearText_4 rfl (by decide) [1, 0] rfl ?_
  refine g_aload_n O dX9_clearText_5 0 rfl rfl ?_
  refine g_iconst (x := (nI 0)) O dX9_clearText_6 (by decide +kernel) ?_
  refine g_put (ws' := [(u0, .inr (9, [.ref u1, .ref u2, .ref u3, .ref u4, .ref u5, .ref u6, .int (nI kn), .ref u7, .int (bB ik), .ref u8, .int (nI 0), .ref u9, .int (nI ta), .int (bB iw), .ref u10, .ref u11]))]) O hiX9_clearText_X9 tyX9 tyX9_ok nmX9 0 rfl rfl 10 (by decide) (by decide +kernel) rfl (tyX9_ok 10 (by decide)) rfl rfl (Nat.le_of_ble_eq_true rfl) dX9_clearText_7 rfl ?_
  refine g_iload_n O dX9_clearText_10 1 rfl rfl ?_
  exact E 11 _ (nI ty) _ dX9_clearText_11 ⟨rfl, rfl⟩

theorem hiX9_undo_X9 : ∀ w ∈ wsX90, w ∈ wsX9_undo := by decide +kernel
set_option maxHeartbeats 4000000 in
set_option maxRecDepth 100000 in
/-- undo, none -/
theorem kX9_undo_b1 (l : Launch) (D : va_G) (z : Nat × Nat × Nat) (u0 : Nat) (u1 : Nat) (u2 : Nat) (u3 : Nat) (u4 : Nat) (u5 : Nat) (u6 : Nat) (u7 : Nat) (u8 : Nat) (u9 : Nat) (u10 : Nat) (u11 : Nat) (ik : Bool) (ty : Nat) (ta : Nat) (iw : Bool)  : CM l yX9_undo wsX9_undo ({ frames := 0, cells := 0, slots := 0, locals := 0 } : Room) D z [.ref u0] [(u0, .inr (9, [.ref u1, .ref u2, .ref u3, .ref u4, .ref u5, .ref u6, .int (nI 0), .ref u7, .int (bB ik), .ref u8, .int (nI ty), .ref u9, .int (nI ta), .int (bB iw), .ref u10, .ref u11]))] (fun r_ w_ => r_ = some (.int (-5)) ∧ w_ = [(u0, .inr (9, [.ref u1, .ref u2, .ref u3, .ref u4, .ref u5, .ref u6, .int (nI 0), .ref u7, .int (bB ik), .ref u8, .int (nI ty), .ref u9, .int (nI ta), .int (bB iw), .ref u10, .ref u11]))]) 0 0 := by
  refine CM_int (own := RX9) (cc := cX9_undo) (maxL := 2) (L0 := [(0, .ref u0)]) (by decide) rfl rfl (Nat.le_of_ble_eq_true rfl) rfl (fun X O E => ?_)
  refine g_aload_n O dX9_undo_0 0 rfl rfl ?_
  refine g_get O hiX9_undo_X9 0 rfl rfl 6 (by decide) (by decide +kernel) rfl dX9_undo_1 ?_
  refine g_if_neN (tgt := 10) O (by omega) dX9_undo_4 (by decide) (fun c_1 => absurd c_1 (by decide)) (fun c_1 => ?_)
  refine g_bipush (x := (-5)) O dX9_undo_7 (by decide +kernel) ?_
  exact E 9 _ (-5) _ dX9_undo_9 ⟨rfl, rfl⟩

set_option maxHeartbeats 4000000 in
set_option maxRecDepth 100000 in
/-- undo -/
theorem kX9_undo_ok (l : Launch) (D : va_G) (z : Nat × Nat × Nat) (u0 : Nat) (u1 : Nat) (u2 : Nat) (u3 : Nat) (u4 : Nat) (u5 : Nat) (u6 : Nat) (u7 : Nat) (u8 : Nat) (u9 : Nat) (u10 : Nat) (u11 : Nat) (kn : Nat) (ik : Bool) (ty : Nat) (ta : Nat) (iw : Bool) (M : Nat → Int32) (Bf : Nat → Int32) (h0_ : 0 < kn) (hkn : kn ≤ 4) : CM l yX9_undo wsX9_undo ({ frames := 0, cells := 0, slots := 0, locals := 0 } : Room) D z [.ref u0] [(u0, .inr (9, [.ref u1, .ref u2, .ref u3, .ref u4, .ref u5, .ref u6, .int (nI kn), .ref u7, .int (bB ik), .ref u8, .int (nI ty), .ref u9, .int (nI ta), .int (bB iw), .ref u10, .ref u11])), (u5, .inl ((TY D)[0].1, 208, .inl M)), (u6, .inl ((TY D)[0].1, 832, .inl Bf))] (fun r_ w_ => r_ = some (.int (nI (kn - 1))) ∧ w_ = [(u0, .inr (9, [.ref u1, .ref u2, .ref u3, .ref u4, .ref u5, .ref u6, .int (nI (kn - 1)), .ref u7, .int (bB ik), .ref u8, .int (nI ty), .ref u9, .int (nI ta), .int (bB iw), .ref u10, .ref u11])), (u5, .inl ((TY D)[0].1, 208, .inl (cpF M (fun j => Bf ((208 * (kn - 1)) + j)) 208))), (u6, .inl ((TY D)[0].1, 832, .inl Bf))]) 0 0 := by
  refine CM_int (own := RX9) (cc := cX9_undo) (maxL := 2) (L0 := [(0, .ref u0)]) (by decide) rfl rfl (Nat.le_of_ble_eq_true rfl) rfl (fun X O E => ?_)
  refine g_aload_n O dX9_undo_0 0 rfl rfl ?_
  refine g_get O hiX9_undo_X9 0 rfl rfl 6 (by decide) (by decide +kernel) rfl dX9_undo_1 ?_
  refine g_if_neN (tgt := 10) O (by omega) dX9_undo_4 (by decide) (fun c_1 => ?_) (fun c_1 => (by exfalso; omega))
  refine g_aload_n O dX9_undo_10 0 rfl rfl ?_
  refine g_dup O dX9_undo_11 rfl ?_
  refine g_get O hiX9_undo_X9 0 rfl rfl 6 (by decide) (by decide +kernel) rfl dX9_undo_12 ?_
  refine g_iconst (x := (nI 1)) O dX9_undo_15 (by decide +kernel) ?_
  refine g_isubN O (by omega) dX9_undo_16 ?_
  refine g_put (ws' := [(u0, .inr (9, [.ref u1, .ref u2, .ref u3, .ref u4, .ref u5, .ref u6, .int (nI (kn - 1)), .ref u7, .int (bB ik), .ref u8, .int (nI ty), .ref u9, .int (nI ta), .int (bB iw), .ref u10, .ref u11])), (u5, .inl ((TY D)[0].1, 208, .inl M)), (u6, .inl ((TY D)[0].1, 832, .inl Bf))]) O hiX9_undo_X9 tyX9 tyX9_ok nmX9 0 rfl rfl 6 (by decide) (by decide +kernel) rfl (tyX9_ok 6 (by decide)) rfl rfl (Nat.le_of_ble_eq_true rfl) dX9_undo_17 rfl ?_
  refine g_iconst (x := (nI 0)) O dX9_undo_20 (by decide +kernel) ?_
  refine g_istore_n (L' := [(0, .ref u0), (1, .int (nI 0))]) O dX9_undo_21 rfl (by decide) [1, 0] rfl ?_
  have J22 : ∀ (n_ : Nat), ∀ (i_ : Nat) (F_ : Nat → Int32) (hi_ : i_ ≤ 208) (hF : F_ = cpF M (fun j => Bf ((208 * (kn - 1)) + j)) i_), 208 - i_ < n_ → G X 0 0 22 [(0, .ref u0), (1, .int (nI i_))] [] [(u0, .inr (9, [.ref u1, .ref u2, .ref u3, .ref u4, .ref u5, .ref u6, .int (nI (kn - 1)), .ref u7, .int (bB ik), .ref u8, .int (nI ty), .ref u9, .int (nI ta), .int (bB iw), .ref u10, .ref u11])), (u5, .inl ((TY D)[0].1, 208, .inl F_)), (u6, .inl ((TY D)[0].1, 832, .inl Bf))] := by
    intro n_
    induction n_ with
    | zero => intro i_ F_ hi_ hF hm_; exact absurd hm_ (Nat.not_lt_zero _)
    | succ n_ ih_ =>
      intro i_ F_ hi_ hF hm_
      refine g_iload_n O dX9_undo_22 1 rfl rfl ?_
      refine g_sipush (x := (nI 208)) O dX9_undo_23 (by decide +kernel) ?_
      refine g_icmp_geN (tgt := 56) O (by omega) (by omega) dX9_undo_26 (by decide) (fun c_2 => ?_) (fun c_2 => ?_)
      ·
        obtain rfl : i_ = 208 := by omega
        subst hF
        refine g_aload_n O dX9_undo_56 0 rfl rfl ?_
        refine g_get O hiX9_undo_X9 0 rfl rfl 6 (by decide) (by decide +kernel) rfl dX9_undo_57 ?_
        exact E 60 _ (nI (kn - 1)) _ dX9_undo_60 ⟨rfl, rfl⟩
      ·
        refine g_aload_n O dX9_undo_29 0 rfl rfl ?_
        refine g_get O hiX9_undo_X9 0 rfl rfl 4 (by decide) (by decide +kernel) rfl dX9_undo_30 ?_
        refine g_iload_n O dX9_undo_33 1 rfl rfl ?_
        refine g_aload_n O dX9_undo_34 0 rfl rfl ?_
        refine g_get O hiX9_undo_X9 0 rfl rfl 5 (by decide) (by decide +kernel) rfl dX9_undo_35 ?_
        refine g_sipush (x := (nI 208)) O dX9_undo_38 (by decide +kernel) ?_
        refine g_aload_n O dX9_undo_41 0 rfl rfl ?_
        refine g_get O hiX9_undo_X9 0 rfl rfl 6 (by decide) (by decide +kernel) rfl dX9_undo_42 ?_
        refine g_imulN O dX9_undo_45 ?_
        refine g_iload_n O dX9_undo_46 1 rfl rfl ?_
        refine g_iaddN O dX9_undo_47 ?_
        refine g_ialdN O 2 rfl (by omega) (by omega) dX9_undo_48 ?_
        refine g_iastN (f' := (upd F_ i_ (Bf ((208 * (kn - 1)) + i_)))) (ws' := [(u0, .inr (9, [.ref u1, .ref u2, .ref u3, .ref u4, .ref u5, .ref u6, .int (nI (kn - 1)), .ref u7, .int (bB ik), .ref u8, .int (nI ty), .ref u9, .int (nI ta), .int (bB iw), .ref u10, .ref u11])), (u5, .inl ((TY D)[0].1, 208, .inl (upd F_ i_ (Bf ((208 * (kn - 1)) + i_))))), (u6, .inl ((TY D)[0].1, 832, .inl Bf))]) O 1 rfl (by omega) (by omega) dX9_undo_49 rfl rfl ?_
        refine g_iincN (L' := [(0, .ref u0), (1, .int (nI (i_ + 1)))]) O dX9_undo_50 1 rfl (by decide) [1, 0] rfl ?_
        refine g_goto (tgt := 22) O dX9_undo_53 (by decide) ?_
        exact ih_ (i_ + 1) _ (by first | assumption | omega | rfl) (by rw [hF]; exact cpF_s _ _ _) (by omega)
  exact J22 _ 0 M (Nat.zero_le _) ((cpF_0 _ _).symm) (Nat.lt_succ_self _)

theorem hiX9_keep_X9 : ∀ w ∈ wsX90, w ∈ wsX9_keep := by decide +kernel
set_option maxHeartbeats 4000000 in
set_option maxRecDepth 100000 in
/-- keep -/
theorem kX9_keep (l : Launch) (D : va_G) (z : Nat × Nat × Nat) (u0 : Nat) (u1 : Nat) (u2 : Nat) (u3 : Nat) (u4 : Nat) (u5 : Nat) (u6 : Nat) (u7 : Nat) (u8 : Nat) (u9 : Nat) (u10 : Nat) (u11 : Nat) (kn : Nat) (ik : Bool) (ty : Nat) (ta : Nat) (iw : Bool) (M : Nat → Int32) (Kp : Nat → Int32) (s : SV) (hM : RM M s) : CM l yX9_keep wsX9_keep ({ frames := 1, cells := 0, slots := 0, locals := 22 } : Room) D z [.ref u0] [(u0, .inr (9, [.ref u1, .ref u2, .ref u3, .ref u4, .ref u5, .ref u6, .int (nI kn), .ref u7, .int (bB ik), .ref u8, .int (nI ty), .ref u9, .int (nI ta), .int (bB iw), .ref u10, .ref u11])), (u5, .inl ((TY D)[0].1, 208, .inl M)), (u7, .inl ((TY D)[0].1, 208, .inl Kp))] (fun r_ w_ => r_ = some (.int (nI (smN (sv_g s) 144))) ∧ w_ = [(u0, .inr (9, [.ref u1, .ref u2, .ref u3, .ref u4, .ref u5, .ref u6, .int (nI kn), .ref u7, .int (bB true), .ref u8, .int (nI ty), .ref u9, .int (nI ta), .int (bB iw), .ref u10, .ref u11])), (u5, .inl ((TY D)[0].1, 208, .inl M)), (u7, .inl ((TY D)[0].1, 208, .inl (cpF Kp M 208)))]) 0 0 := by
  refine CM_int (own := RX9) (cc := cX9_keep) (maxL := 2) (L0 := [(0, .ref u0)]) (by decide) rfl rfl (Nat.le_of_ble_eq_true rfl) rfl (fun X O E => ?_)
  refine g_iconst (x := (nI 0)) O dX9_keep_0 (by decide +kernel) ?_
  refine g_istore_n (L' := [(0, .ref u0), (1, .int (nI 0))]) O dX9_keep_1 rfl (by decide) [1, 0] rfl ?_
  have J2 : ∀ (n_ : Nat), ∀ (i_ : Nat) (F_ : Nat → Int32) (hi_ : i_ ≤ 208) (hF : F_ = cpF Kp M i_), 208 - i_ < n_ → G X 0 0 2 [(0, .ref u0), (1, .int (nI i_))] [] [(u0, .inr (9, [.ref u1, .ref u2, .ref u3, .ref u4, .ref u5, .ref u6, .int (nI kn), .ref u7, .int (bB ik), .ref u8, .int (nI ty), .ref u9, .int (nI ta), .int (bB iw), .ref u10, .ref u11])), (u5, .inl ((TY D)[0].1, 208, .inl M)), (u7, .inl ((TY D)[0].1, 208, .inl F_))] := by
    intro n_
    induction n_ with
    | zero => intro i_ F_ hi_ hF hm_; exact absurd hm_ (Nat.not_lt_zero _)
    | succ n_ ih_ =>
      intro i_ F_ hi_ hF hm_
      refine g_iload_n O dX9_keep_2 1 rfl rfl ?_
      refine g_sipush (x := (nI 208)) O dX9_keep_3 (by decide +kernel) ?_
      refine g_icmp_geN (tgt := 27) O (by omega) (by omega) dX9_keep_6 (by decide) (fun c_1 => ?_) (fun c_1 => ?_)
      ·
        obtain rfl : i_ = 208 := by omega
        subst hF
        refine g_aload_n O dX9_keep_27 0 rfl rfl ?_
        refine g_iconst (x := (nI 1)) O dX9_keep_28 (by decide +kernel) ?_
        refine g_eq (st' := [.int (bB true), .ref u0]) rfl rfl rfl ?_
        refine g_put (ws' := [(u0, .inr (9, [.ref u1, .ref u2, .ref u3, .ref u4, .ref u5, .ref u6, .int (nI kn), .ref u7, .int (bB true), .ref u8, .int (nI ty), .ref u9, .int (nI ta), .int (bB iw), .ref u10, .ref u11])), (u5, .inl ((TY D)[0].1, 208, .inl M)), (u7, .inl ((TY D)[0].1, 208, .inl (cpF Kp M 208)))]) O hiX9_keep_X9 tyX9 tyX9_ok nmX9 0 rfl rfl 8 (by decide) (by decide +kernel) rfl (tyX9_ok 8 (by decide)) (bB_nn _) (bB_fit _) (Nat.le_of_ble_eq_true rfl) dX9_keep_29 rfl ?_
        refine g_aload_n O dX9_keep_32 0 rfl rfl ?_
        refine g_callV (As := []) (wr := [(u7, .inl ((TY D)[0].1, 208, .inl (cpF Kp M 208)))]) O (kX9_allGrains l D z u0 u1 u2 u3 u4 u5 u6 u7 u8 u9 u10 u11 kn true ty ta iw M s (by first | assumption | omega)) gX9_keep_X9_allGrains rfl rfl rfl 0 (by decide +kernel) (by decide) (by decide) (q0 := 0) rfl rfl rfl [0, 1] [2] rfl (by decide) rfl (by decide) (by decide) rfl rfl (Nat.le_of_ble_eq_true rfl) dX9_keep_33 (fun r_2 w_3 hp => ?_)
        obtain ⟨rfl, rfl⟩ := hp
        refine g_eq (st' := [.int (nI (smN (sv_g s) 144))]) (ws' := [(u7, .inl ((TY D)[0].1, 208, .inl (cpF Kp M 208))), (u0, .inr (9, [.ref u1, .ref u2, .ref u3, .ref u4, .ref u5, .ref u6, .int (nI kn), .ref u7, .int (bB true), .ref u8, .int (nI ty), .ref u9, .int (nI ta), .int (bB iw), .ref u10, .ref u11])), (u5, .inl ((TY D)[0].1, 208, .inl M))]) rfl rfl rfl ?_
        refine g_perm (ws' := [(u0, .inr (9, [.ref u1, .ref u2, .ref u3, .ref u4, .ref u5, .ref u6, .int (nI kn), .ref u7, .int (bB true), .ref u8, .int (nI ty), .ref u9, .int (nI ta), .int (bB iw), .ref u10, .ref u11])), (u5, .inl ((TY D)[0].1, 208, .inl M)), (u7, .inl ((TY D)[0].1, 208, .inl (cpF Kp M 208)))]) [1, 2, 0] rfl (by decide) ?_
        exact E 36 _ (nI (smN (sv_g s) 144)) _ dX9_keep_36 ⟨rfl, rfl⟩
      ·
        refine g_aload_n O dX9_keep_9 0 rfl rfl ?_
        refine g_get O hiX9_keep_X9 0 rfl rfl 7 (by decide) (by decide +kernel) rfl dX9_keep_10 ?_
        refine g_iload_n O dX9_keep_13 1 rfl rfl ?_
        refine g_aload_n O dX9_keep_14 0 rfl rfl ?_
        refine g_get O hiX9_keep_X9 0 rfl rfl 4 (by decide) (by decide +kernel) rfl dX9_keep_15 ?_
        refine g_iload_n O dX9_keep_18 1 rfl rfl ?_
        refine g_ialdN O 1 rfl (by omega) (by omega) dX9_keep_19 ?_
        refine g_iastN (f' := (upd F_ i_ (M i_))) (ws' := [(u0, .inr (9, [.ref u1, .ref u2, .ref u3, .ref u4, .ref u5, .ref u6, .int (nI kn), .ref u7, .int (bB ik), .ref u8, .int (nI ty), .ref u9, .int (nI ta), .int (bB iw), .ref u10, .ref u11])), (u5, .inl ((TY D)[0].1, 208, .inl M)), (u7, .inl ((TY D)[0].1, 208, .inl (upd F_ i_ (M i_))))]) O 2 rfl (by omega) (by omega) dX9_keep_20 rfl rfl ?_
        refine g_iincN (L' := [(0, .ref u0), (1, .int (nI (i_ + 1)))]) O dX9_keep_21 1 rfl (by decide) [1, 0] rfl ?_
        refine g_goto (tgt := 2) O dX9_keep_24 (by decide) ?_
        exact ih_ (i_ + 1) _ (by first | assumption | omega | rfl) (by rw [hF]; exact cpF_s _ _ _) (by omega)
  exact J2 _ 0 Kp (Nat.zero_le _) ((cpF_0 _ _).symm) (Nat.lt_succ_self _)

theorem hiX9_restore_X9 : ∀ w ∈ wsX90, w ∈ wsX9_restore := by decide +kernel
set_option maxHeartbeats 4000000 in
set_option maxRecDepth 100000 in
/-- restore, none -/
theorem kX9_restore_b1 (l : Launch) (D : va_G) (z : Nat × Nat × Nat) (u0 : Nat) (u1 : Nat) (u2 : Nat) (u3 : Nat) (u4 : Nat) (u5 : Nat) (u6 : Nat) (u7 : Nat) (u8 : Nat) (u9 : Nat) (u10 : Nat) (u11 : Nat) (kn : Nat) (ty : Nat) (ta : Nat) (iw : Bool)  : CM l yX9_restore wsX9_restore ({ frames := 1, cells := 0, slots := 0, locals := 22 } : Room) D z [.ref u0] [(u0, .inr (9, [.ref u1, .ref u2, .ref u3, .ref u4, .ref u5, .ref u6, .int (nI kn), .ref u7, .int (bB false), .ref u8, .int (nI ty), .ref u9, .int (nI ta), .int (bB iw), .ref u10, .ref u11]))] (fun r_ w_ => r_ = some (.int (-5)) ∧ w_ = [(u0, .inr (9, [.ref u1, .ref u2, .ref u3, .ref u4, .ref u5, .ref u6, .int (nI kn), .ref u7, .int (bB false), .ref u8, .int (nI ty), .ref u9, .int (nI ta), .int (bB iw), .ref u10, .ref u11]))]) 0 0 := by
  refine CM_int (own := RX9) (cc := cX9_restore) (maxL := 2) (L0 := [(0, .ref u0)]) (by decide) rfl rfl (Nat.le_of_ble_eq_true rfl) rfl (fun X O E => ?_)
  refine g_aload_n O dX9_restore_0 0 rfl rfl ?_
  refine g_get O hiX9_restore_X9 0 rfl rfl 8 (by decide) (by decide +kernel) rfl dX9_restore_1 ?_
  refine g_if_neB (tgt := 10) O dX9_restore_4 (by decide) (fun c_1 => absurd c_1 (by decide)) (fun c_1 => ?_)
  refine g_bipush (x := (-5)) O dX9_restore_7 (by decide +kernel) ?_
  exact E 9 _ (-5) _ dX9_restore_9 ⟨rfl, rfl⟩

set_option maxHeartbeats 4000000 in
set_option maxRecDepth 100000 in
/-- restore -/
theorem kX9_restore_ok (l : Launch) (D : va_G) (z : Nat × Nat × Nat) (u0 : Nat) (u1 : Nat) (u2 : Nat) (u3 : Nat) (u4 : Nat) (u5 : Nat) (u6 : Nat) (u7 : Nat) (u8 : Nat) (u9 : Nat) (u10 : Nat) (u11 : Nat) (kn : Nat) (ty : Nat) (ta : Nat) (iw : Bool) (M : Nat → Int32) (Bf : Nat → Int32) (Kp : Nat → Int32) (sn : SV) (hkn : kn ≤ 4) (hK : RM Kp sn) (hns : sv_nc sn ≤ 4) (hqs : sv_ps sn ≤ 16) : CM l yX9_restore wsX9_restore ({ frames := 1, cells := 0, slots := 0, locals := 22 } : Room) D z [.ref u0] [(u0, .inr (9, [.ref u1, .ref u2, .ref u3, .ref u4, .ref u5, .ref u6, .int (nI kn), .ref u7, .int (bB true), .ref u8, .int (nI ty), .ref u9, .int (nI ta), .int (bB iw), .ref u10, .ref u11])), (u5, .inl ((TY D)[0].1, 208, .inl M)), (u6, .inl ((TY D)[0].1, 832, .inl Bf)), (u7, .inl ((TY D)[0].1, 208, .inl Kp))] (fun r_ w_ => r_ = some (.int (nI (smN (sv_g sn) 144))) ∧ w_ = [(u0, .inr (9, [.ref u1, .ref u2, .ref u3, .ref u4, .ref u5, .ref u6, .int (nI (rhN kn)), .ref u7, .int (bB true), .ref u8, .int (nI ty), .ref u9, .int (nI ta), .int (bB iw), .ref u10, .ref u11])), (u5, .inl ((TY D)[0].1, 208, .inl (cpF M Kp 208))), (u6, .inl ((TY D)[0].1, 832, .inl (kwF Bf M kn))), (u7, .inl ((TY D)[0].1, 208, .inl Kp))]) 0 0 := by
  refine CM_int (own := RX9) (cc := cX9_restore) (maxL := 2) (L0 := [(0, .ref u0)]) (by decide) rfl rfl (Nat.le_of_ble_eq_true rfl) rfl (fun X O E => ?_)
  refine g_aload_n O dX9_restore_0 0 rfl rfl ?_
  refine g_get O hiX9_restore_X9 0 rfl rfl 8 (by decide) (by decide +kernel) rfl dX9_restore_1 ?_
  refine g_if_neB (tgt := 10) O dX9_restore_4 (by decide) (fun c_1 => ?_) (fun c_1 => absurd c_1 (by decide))
  refine g_aload_n O dX9_restore_10 0 rfl rfl ?_
  refine g_callV (As := []) (wr := [(u7, .inl ((TY D)[0].1, 208, .inl Kp))]) O (kX9_know l D z u0 u1 u2 u3 u4 u5 u6 u7 u8 u9 u10 u11 kn true ty ta iw M Bf (by first | assumption | omega)) gX9_restore_X9_know rfl rfl rfl 0 (by decide +kernel) (by decide) (by decide) (q0 := 0) rfl rfl rfl [0, 1, 2] [3] rfl (by decide) rfl (by decide) (by decide) rfl rfl (Nat.le_of_ble_eq_true rfl) dX9_restore_11 (fun r_2 w_3 hp => ?_)
  obtain ⟨rfl, rfl⟩ := hp
  refine g_eq (st' := []) (ws' := [(u7, .inl ((TY D)[0].1, 208, .inl Kp)), (u0, .inr (9, [.ref u1, .ref u2, .ref u3, .ref u4, .ref u5, .ref u6, .int (nI (rhN kn)), .ref u7, .int (bB true), .ref u8, .int (nI ty), .ref u9, .int (nI ta), .int (bB iw), .ref u10, .ref u11])), (u5, .inl ((TY D)[0].1, 208, .inl M)), (u6, .inl ((TY D)[0].1, 832, .inl (kwF Bf M kn)))]) rfl rfl rfl ?_
  refine g_iconst (x := (nI 0)) O dX9_restore_14 (by decide +kernel) ?_
  refine g_istore_n (L' := [(0, .ref u0), (1, .int (nI 0))]) O dX9_restore_15 rfl (by decide) [1, 0] rfl ?_
  have J16 : ∀ (n_ : Nat), ∀ (i_ : Nat) (F_ : Nat → Int32) (hi_ : i_ ≤ 208) (hF : F_ = cpF M Kp i_), 208 - i_ < n_ → G X 0 0 16 [(0, .ref u0), (1, .int (nI i_))] [] [(u7, .inl ((TY D)[0].1, 208, .inl Kp)), (u0, .inr (9, [.ref u1, .ref u2, .ref u3, .ref u4, .ref u5, .ref u6, .int (nI (rhN kn)), .ref u7, .int (bB true), .ref u8, .int (nI ty), .ref u9, .int (nI ta), .int (bB iw), .ref u10, .ref u11])), (u5, .inl ((TY D)[0].1, 208, .inl F_)), (u6, .inl ((TY D)[0].1, 832, .inl (kwF Bf M kn)))] := by
    intro n_
    induction n_ with
    | zero => intro i_ F_ hi_ hF hm_; exact absurd hm_ (Nat.not_lt_zero _)
    | succ n_ ih_ =>
      intro i_ F_ hi_ hF hm_
      refine g_iload_n O dX9_restore_16 1 rfl rfl ?_
      refine g_sipush (x := (nI 208)) O dX9_restore_17 (by decide +kernel) ?_
      refine g_icmp_geN (tgt := 41) O (by omega) (by omega) dX9_restore_20 (by decide) (fun c_4 => ?_) (fun c_4 => ?_)
      ·
        obtain rfl : i_ = 208 := by omega
        subst hF
        refine g_aload_n O dX9_restore_41 0 rfl rfl ?_
        refine g_callV (As := []) (wr := [(u7, .inl ((TY D)[0].1, 208, .inl Kp)), (u6, .inl ((TY D)[0].1, 832, .inl (kwF Bf M kn)))]) O (kX9_allGrains l D z u0 u1 u2 u3 u4 u5 u6 u7 u8 u9 u10 u11 (rhN kn) true ty ta iw (cpF M Kp 208) sn (RM_eq hK hns hqs (fun j hj => by simp only [cpF]; rw [if_pos hj]))) gX9_restore_X9_allGrains rfl rfl rfl 0 (by decide +kernel) (by decide) (by decide) (q0 := 0) rfl rfl rfl [1, 2] [0, 3] rfl (by decide) rfl (by decide) (by decide) rfl rfl (Nat.le_of_ble_eq_true rfl) dX9_restore_42 (fun r_5 w_6 hp => ?_)
        obtain ⟨rfl, rfl⟩ := hp
        refine g_eq (st' := [.int (nI (smN (sv_g sn) 144))]) (ws' := [(u7, .inl ((TY D)[0].1, 208, .inl Kp)), (u6, .inl ((TY D)[0].1, 832, .inl (kwF Bf M kn))), (u0, .inr (9, [.ref u1, .ref u2, .ref u3, .ref u4, .ref u5, .ref u6, .int (nI (rhN kn)), .ref u7, .int (bB true), .ref u8, .int (nI ty), .ref u9, .int (nI ta), .int (bB iw), .ref u10, .ref u11])), (u5, .inl ((TY D)[0].1, 208, .inl (cpF M Kp 208)))]) rfl rfl rfl ?_
        refine g_perm (ws' := [(u0, .inr (9, [.ref u1, .ref u2, .ref u3, .ref u4, .ref u5, .ref u6, .int (nI (rhN kn)), .ref u7, .int (bB true), .ref u8, .int (nI ty), .ref u9, .int (nI ta), .int (bB iw), .ref u10, .ref u11])), (u5, .inl ((TY D)[0].1, 208, .inl (cpF M Kp 208))), (u6, .inl ((TY D)[0].1, 832, .inl (kwF Bf M kn))), (u7, .inl ((TY D)[0].1, 208, .inl Kp))]) [2, 3, 1, 0] rfl (by decide) ?_
        exact E 45 _ (nI (smN (sv_g sn) 144)) _ dX9_restore_45 ⟨rfl, rfl⟩
      ·
        refine g_aload_n O dX9_restore_23 0 rfl rfl ?_
        refine g_get O hiX9_restore_X9 1 rfl rfl 4 (by decide) (by decide +kernel) rfl dX9_restore_24 ?_
        refine g_iload_n O dX9_restore_27 1 rfl rfl ?_
        refine g_aload_n O dX9_restore_28 0 rfl rfl ?_
        refine g_get O hiX9_restore_X9 1 rfl rfl 7 (by decide) (by decide +kernel) rfl dX9_restore_29 ?_
        refine g_iload_n O dX9_restore_32 1 rfl rfl ?_
        refine g_ialdN O 0 rfl (by omega) (by omega) dX9_restore_33 ?_
        refine g_iastN (f' := (upd F_ i_ (Kp i_))) (ws' := [(u7, .inl ((TY D)[0].1, 208, .inl Kp)), (u0, .inr (9, [.ref u1, .ref u2, .ref u3, .ref u4, .ref u5, .ref u6, .int (nI (rhN kn)), .ref u7, .int (bB true), .ref u8, .int (nI ty), .ref u9, .int (nI ta), .int (bB iw), .ref u10, .ref u11])), (u5, .inl ((TY D)[0].1, 208, .inl (upd F_ i_ (Kp i_)))), (u6, .inl ((TY D)[0].1, 832, .inl (kwF Bf M kn)))]) O 2 rfl (by omega) (by omega) dX9_restore_34 rfl rfl ?_
        refine g_iincN (L' := [(0, .ref u0), (1, .int (nI (i_ + 1)))]) O dX9_restore_35 1 rfl (by decide) [1, 0] rfl ?_
        refine g_goto (tgt := 16) O dX9_restore_38 (by decide) ?_
        exact ih_ (i_ + 1) _ (by first | assumption | omega | rfl) (by rw [hF]; exact cpF_s _ _ _) (by omega)
  exact J16 _ 0 M (Nat.zero_le _) ((cpF_0 _ _).symm) (Nat.lt_succ_self _)
