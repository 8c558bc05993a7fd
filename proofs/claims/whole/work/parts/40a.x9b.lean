theorem hiX9_know_X9 : ∀ w ∈ wsX90, w ∈ wsX9_know := by intro w h; simp only [wsX9_know, List.mem_append, List.mem_cons, h, or_true, true_or]
set_option maxHeartbeats 2000000 in
set_option maxRecDepth 100000 in
/-- a state is known -/
theorem kX9_know (l : Launch) (D : va_G) (z : Nat × Nat × Nat) (u0 : Nat) (u1 : Nat) (u2 : Nat) (u3 : Nat) (u4 : Nat) (u5 : Nat) (u6 : Nat) (u7 : Nat) (u8 : Nat) (u9 : Nat) (u10 : Nat) (u11 : Nat) (kn : Nat) (ik : Bool) (ty : Nat) (ta : Nat) (iw : Bool) (M : Nat → Int32) (Bf : Nat → Int32) (hkn : kn ≤ 4) : CM l yX9_know wsX9_know ({ frames := 0, cells := 0, slots := 0, locals := 0 } : Room) D z [.ref u0] [(u0, .inr (9, [.ref u1, .ref u2, .ref u3, .ref u4, .ref u5, .ref u6, .int (nI kn), .ref u7, .int (bB ik), .ref u8, .int (nI ty), .ref u9, .int (nI ta), .int (bB iw), .ref u10, .ref u11])), (u5, .inl (tyI D, 208, .inl M)), (u6, .inl (tyI D, 832, .inl Bf))] (fun r_ w_ => r_ = none ∧ w_ = [(u0, .inr (9, [.ref u1, .ref u2, .ref u3, .ref u4, .ref u5, .ref u6, .int (nI (rhN kn)), .ref u7, .int (bB ik), .ref u8, .int (nI ty), .ref u9, .int (nI ta), .int (bB iw), .ref u10, .ref u11])), (u5, .inl (tyI D, 208, .inl M)), (u6, .inl (tyI D, 832, .inl (kwF Bf M kn)))]) 0 0 := by
  refine CM_void (own := RX9) (cc := cX9_know) (maxL := 2) (L0 := [(0, .ref u0)]) (by decide) rfl rfl (Nat.le_of_ble_eq_true rfl) rfl (fun X O E => ?_)
  by_cases h4 : kn = 4
  ·
    subst h4
    refine g_aload_n O dX9_know_0 0 rfl rfl ?_
    refine g_get O hiX9_know_X9 0 rfl rfl 6 (by decide) (by decide +kernel) rfl dX9_know_1 ?_
    refine g_iconst (x := (nI 4)) O dX9_know_4 (by decide +kernel) ?_
    refine g_icmp_neN (tgt := 49) O (by omega) (by omega) dX9_know_5 (by decide) (fun c_1 => absurd c_1 (by decide)) (fun c_1 => ?_)
    refine g_iconst (x := (nI 0)) O dX9_know_8 (by decide +kernel) ?_
    refine g_istore_n (L' := [(0, .ref u0), (1, .int (nI 0))]) O dX9_know_9 rfl (by decide) [1, 0] rfl ?_
    have J10 : ∀ (n_ : Nat), ∀ (i_ : Nat) (F_ : Nat → Int32) (hi_ : i_ ≤ 624) (hF : F_ = sh1 Bf i_), 624 - i_ < n_ → G X 0 0 10 [(0, .ref u0), (1, .int (nI i_))] [] [(u0, .inr (9, [.ref u1, .ref u2, .ref u3, .ref u4, .ref u5, .ref u6, .int (nI 4), .ref u7, .int (bB ik), .ref u8, .int (nI ty), .ref u9, .int (nI ta), .int (bB iw), .ref u10, .ref u11])), (u5, .inl (tyI D, 208, .inl M)), (u6, .inl (tyI D, 832, .inl F_))] := by
      intro n_
      induction n_ with
      | zero => intro i_ F_ hi_ hF hm_; exact absurd hm_ (Nat.not_lt_zero _)
      | succ n_ ih_ =>
        intro i_ F_ hi_ hF hm_
        refine g_iload_n O dX9_know_10 1 rfl rfl ?_
        refine g_sipush (x := (nI 624)) O dX9_know_11 (by decide +kernel) ?_
        refine g_icmp_geN (tgt := 39) O (by omega) (by omega) dX9_know_14 (by decide) (fun c_2 => ?_) (fun c_2 => ?_)
        ·
          obtain rfl : i_ = 624 := by omega
          subst hF
          refine g_aload_n O dX9_know_39 0 rfl rfl ?_
          refine g_dup O dX9_know_40 rfl ?_
          refine g_get O hiX9_know_X9 0 rfl rfl 6 (by decide) (by decide +kernel) rfl dX9_know_41 ?_
          refine g_iconst (x := (nI 1)) O dX9_know_44 (by decide +kernel) ?_
          refine g_isubN O (by omega) dX9_know_45 ?_
          refine g_put (ws' := [(u0, .inr (9, [.ref u1, .ref u2, .ref u3, .ref u4, .ref u5, .ref u6, .int (nI (4 - 1)), .ref u7, .int (bB ik), .ref u8, .int (nI ty), .ref u9, .int (nI ta), .int (bB iw), .ref u10, .ref u11])), (u5, .inl (tyI D, 208, .inl M)), (u6, .inl (tyI D, 832, .inl (sh1 Bf 624)))]) O hiX9_know_X9 tyX9 tyX9_ok nmX9 0 rfl rfl 6 (by decide) (by decide +kernel) rfl (tyX9_ok 6 (by decide)) rfl rfl (Nat.le_of_ble_eq_true rfl) dX9_know_46 rfl ?_
          obtain ⟨B0, hB0⟩ : ∃ f, f = (sh1 Bf 624) := ⟨_, rfl⟩
          obtain ⟨k0, hk0⟩ : ∃ k, k = 4 - 1 := ⟨_, rfl⟩
          refine g_eq (ws' := [(u0, .inr (9, [.ref u1, .ref u2, .ref u3, .ref u4, .ref u5, .ref u6, .int (nI k0), .ref u7, .int (bB ik), .ref u8, .int (nI ty), .ref u9, .int (nI ta), .int (bB iw), .ref u10, .ref u11])), (u5, .inl (tyI D, 208, .inl M)), (u6, .inl (tyI D, 832, .inl B0))]) rfl rfl (by rw [hB0, hk0]) ?_
          have hk3 : k0 ≤ 3 := by omega
          refine g_iconst (x := (nI 0)) O dX9_know_49 (by decide +kernel) ?_
          refine g_istore_n (L' := [(0, .ref u0), (1, .int (nI 0))]) O dX9_know_50 rfl (by decide) [1, 0] rfl ?_
          have J51 : ∀ (n_ : Nat), ∀ (i_ : Nat) (F_ : Nat → Int32) (hi_ : i_ ≤ 208) (hF : F_ = mwF B0 M k0 i_), 208 - i_ < n_ → G X 0 0 51 [(0, .ref u0), (1, .int (nI i_))] [] [(u0, .inr (9, [.ref u1, .ref u2, .ref u3, .ref u4, .ref u5, .ref u6, .int (nI k0), .ref u7, .int (bB ik), .ref u8, .int (nI ty), .ref u9, .int (nI ta), .int (bB iw), .ref u10, .ref u11])), (u5, .inl (tyI D, 208, .inl M)), (u6, .inl (tyI D, 832, .inl F_))] := by
            intro n_
            induction n_ with
            | zero => intro i_ F_ hi_ hF hm_; exact absurd hm_ (Nat.not_lt_zero _)
            | succ n_ ih_ =>
              intro i_ F_ hi_ hF hm_
              refine g_iload_n O dX9_know_51 1 rfl rfl ?_
              refine g_sipush (x := (nI 208)) O dX9_know_52 (by decide +kernel) ?_
              refine g_icmp_geN (tgt := 85) O (by omega) (by omega) dX9_know_55 (by decide) (fun c_3 => ?_) (fun c_3 => ?_)
              ·
                obtain rfl : i_ = 208 := by omega
                subst hF
                refine g_aload_n O dX9_know_85 0 rfl rfl ?_
                refine g_dup O dX9_know_86 rfl ?_
                refine g_get O hiX9_know_X9 0 rfl rfl 6 (by decide) (by decide +kernel) rfl dX9_know_87 ?_
                refine g_iconst (x := (nI 1)) O dX9_know_90 (by decide +kernel) ?_
                refine g_iaddN O dX9_know_91 ?_
                refine g_put (ws' := [(u0, .inr (9, [.ref u1, .ref u2, .ref u3, .ref u4, .ref u5, .ref u6, .int (nI (k0 + 1)), .ref u7, .int (bB ik), .ref u8, .int (nI ty), .ref u9, .int (nI ta), .int (bB iw), .ref u10, .ref u11])), (u5, .inl (tyI D, 208, .inl M)), (u6, .inl (tyI D, 832, .inl (mwF B0 M k0 208)))]) O hiX9_know_X9 tyX9 tyX9_ok nmX9 0 rfl rfl 6 (by decide) (by decide +kernel) rfl (tyX9_ok 6 (by decide)) rfl rfl (Nat.le_of_ble_eq_true rfl) dX9_know_92 rfl ?_
                exact E 95 _ _ dX9_know_95 (by subst hB0; subst hk0; exact ⟨rfl, rfl⟩)
              ·
                refine g_aload_n O dX9_know_58 0 rfl rfl ?_
                refine g_get O hiX9_know_X9 0 rfl rfl 5 (by decide) (by decide +kernel) rfl dX9_know_59 ?_
                refine g_sipush (x := (nI 208)) O dX9_know_62 (by decide +kernel) ?_
                refine g_aload_n O dX9_know_65 0 rfl rfl ?_
                refine g_get O hiX9_know_X9 0 rfl rfl 6 (by decide) (by decide +kernel) rfl dX9_know_66 ?_
                refine g_imulN O dX9_know_69 ?_
                refine g_iload_n O dX9_know_70 1 rfl rfl ?_
                refine g_iaddN O dX9_know_71 ?_
                refine g_aload_n O dX9_know_72 0 rfl rfl ?_
                refine g_get O hiX9_know_X9 0 rfl rfl 4 (by decide) (by decide +kernel) rfl dX9_know_73 ?_
                refine g_iload_n O dX9_know_76 1 rfl rfl ?_
                refine g_ialdN O 1 rfl (by omega) (by omega) dX9_know_77 ?_
                refine g_iastN (f' := (upd F_ ((208 * k0) + i_) (M i_))) (ws' := [(u0, .inr (9, [.ref u1, .ref u2, .ref u3, .ref u4, .ref u5, .ref u6, .int (nI k0), .ref u7, .int (bB ik), .ref u8, .int (nI ty), .ref u9, .int (nI ta), .int (bB iw), .ref u10, .ref u11])), (u5, .inl (tyI D, 208, .inl M)), (u6, .inl (tyI D, 832, .inl (upd F_ ((208 * k0) + i_) (M i_))))]) O 2 rfl (by omega) (by omega) dX9_know_78 rfl rfl ?_
                refine g_iincN (L' := [(0, .ref u0), (1, .int (nI (i_ + 1)))]) O dX9_know_79 1 rfl (by decide) [1, 0] rfl ?_
                refine g_goto (tgt := 51) O dX9_know_82 (by decide) ?_
                exact ih_ (i_ + 1) _ (by first | assumption | omega | rfl) (by rw [hF]; exact mwF_s _ _ _ _) (by omega)
          exact J51 _ 0 B0 (Nat.zero_le _) ((mwF_0 _ _ _).symm) (Nat.lt_succ_self _)
        ·
          refine g_aload_n O dX9_know_17 0 rfl rfl ?_
          refine g_get O hiX9_know_X9 0 rfl rfl 5 (by decide) (by decide +kernel) rfl dX9_know_18 ?_
          refine g_iload_n O dX9_know_21 1 rfl rfl ?_
          refine g_aload_n O dX9_know_22 0 rfl rfl ?_
          refine g_get O hiX9_know_X9 0 rfl rfl 5 (by decide) (by decide +kernel) rfl dX9_know_23 ?_
          refine g_sipush (x := (nI 208)) O dX9_know_26 (by decide +kernel) ?_
          refine g_iload_n O dX9_know_29 1 rfl rfl ?_
          refine g_iaddN O dX9_know_30 ?_
          refine g_ialdN O 2 rfl (by omega) (by omega) dX9_know_31 ?_
          refine g_iastN (f' := (upd F_ i_ (F_ (208 + i_)))) (ws' := [(u0, .inr (9, [.ref u1, .ref u2, .ref u3, .ref u4, .ref u5, .ref u6, .int (nI 4), .ref u7, .int (bB ik), .ref u8, .int (nI ty), .ref u9, .int (nI ta), .int (bB iw), .ref u10, .ref u11])), (u5, .inl (tyI D, 208, .inl M)), (u6, .inl (tyI D, 832, .inl (upd F_ i_ (F_ (208 + i_)))))]) O 2 rfl (by omega) (by omega) dX9_know_32 rfl rfl ?_
          refine g_iincN (L' := [(0, .ref u0), (1, .int (nI (i_ + 1)))]) O dX9_know_33 1 rfl (by decide) [1, 0] rfl ?_
          refine g_goto (tgt := 10) O dX9_know_36 (by decide) ?_
          exact ih_ (i_ + 1) _ (by first | assumption | omega | rfl) (by rw [hF]; exact sh1_s _ _) (by omega)
    exact J10 _ 0 Bf (Nat.zero_le _) ((sh1_0 _).symm) (Nat.lt_succ_self _)
  ·
    refine g_aload_n O dX9_know_0 0 rfl rfl ?_
    refine g_get O hiX9_know_X9 0 rfl rfl 6 (by decide) (by decide +kernel) rfl dX9_know_1 ?_
    refine g_iconst (x := (nI 4)) O dX9_know_4 (by decide +kernel) ?_
    refine g_icmp_neN (tgt := 49) O (by omega) (by omega) dX9_know_5 (by decide) (fun c_4 => ?_) (fun c_4 => absurd c_4 h4)
    obtain ⟨B0, hB0⟩ : ∃ f, f = Bf := ⟨_, rfl⟩
    obtain ⟨k0, hk0⟩ : ∃ k, k = kn := ⟨_, rfl⟩
    refine g_eq (ws' := [(u0, .inr (9, [.ref u1, .ref u2, .ref u3, .ref u4, .ref u5, .ref u6, .int (nI k0), .ref u7, .int (bB ik), .ref u8, .int (nI ty), .ref u9, .int (nI ta), .int (bB iw), .ref u10, .ref u11])), (u5, .inl (tyI D, 208, .inl M)), (u6, .inl (tyI D, 832, .inl B0))]) rfl rfl (by rw [hB0, hk0]) ?_
    have hk3 : k0 ≤ 3 := by omega
    refine g_iconst (x := (nI 0)) O dX9_know_49 (by decide +kernel) ?_
    refine g_istore_n (L' := [(0, .ref u0), (1, .int (nI 0))]) O dX9_know_50 rfl (by decide) [1, 0] rfl ?_
    have J51 : ∀ (n_ : Nat), ∀ (i_ : Nat) (F_ : Nat → Int32) (hi_ : i_ ≤ 208) (hF : F_ = mwF B0 M k0 i_), 208 - i_ < n_ → G X 0 0 51 [(0, .ref u0), (1, .int (nI i_))] [] [(u0, .inr (9, [.ref u1, .ref u2, .ref u3, .ref u4, .ref u5, .ref u6, .int (nI k0), .ref u7, .int (bB ik), .ref u8, .int (nI ty), .ref u9, .int (nI ta), .int (bB iw), .ref u10, .ref u11])), (u5, .inl (tyI D, 208, .inl M)), (u6, .inl (tyI D, 832, .inl F_))] := by
      intro n_
      induction n_ with
      | zero => intro i_ F_ hi_ hF hm_; exact absurd hm_ (Nat.not_lt_zero _)
      | succ n_ ih_ =>
        intro i_ F_ hi_ hF hm_
        refine g_iload_n O dX9_know_51 1 rfl rfl ?_
        refine g_sipush (x := (nI 208)) O dX9_know_52 (by decide +kernel) ?_
        refine g_icmp_geN (tgt := 85) O (by omega) (by omega) dX9_know_55 (by decide) (fun c_5 => ?_) (fun c_5 => ?_)
        ·
          obtain rfl : i_ = 208 := by omega
          subst hF
          refine g_aload_n O dX9_know_85 0 rfl rfl ?_
          refine g_dup O dX9_know_86 rfl ?_
          refine g_get O hiX9_know_X9 0 rfl rfl 6 (by decide) (by decide +kernel) rfl dX9_know_87 ?_
          refine g_iconst (x := (nI 1)) O dX9_know_90 (by decide +kernel) ?_
          refine g_iaddN O dX9_know_91 ?_
          refine g_put (ws' := [(u0, .inr (9, [.ref u1, .ref u2, .ref u3, .ref u4, .ref u5, .ref u6, .int (nI (k0 + 1)), .ref u7, .int (bB ik), .ref u8, .int (nI ty), .ref u9, .int (nI ta), .int (bB iw), .ref u10, .ref u11])), (u5, .inl (tyI D, 208, .inl M)), (u6, .inl (tyI D, 832, .inl (mwF B0 M k0 208)))]) O hiX9_know_X9 tyX9 tyX9_ok nmX9 0 rfl rfl 6 (by decide) (by decide +kernel) rfl (tyX9_ok 6 (by decide)) rfl rfl (Nat.le_of_ble_eq_true rfl) dX9_know_92 rfl ?_
          exact E 95 _ _ dX9_know_95 (by subst hB0; subst hk0; rw [show rhN k0 = k0 + 1 from if_neg h4, show kwF B0 M k0 = mwF B0 M k0 208 from if_neg h4]; exact ⟨rfl, rfl⟩)
        ·
          refine g_aload_n O dX9_know_58 0 rfl rfl ?_
          refine g_get O hiX9_know_X9 0 rfl rfl 5 (by decide) (by decide +kernel) rfl dX9_know_59 ?_
          refine g_sipush (x := (nI 208)) O dX9_know_62 (by decide +kernel) ?_
          refine g_aload_n O dX9_know_65 0 rfl rfl ?_
          refine g_get O hiX9_know_X9 0 rfl rfl 6 (by decide) (by decide +kernel) rfl dX9_know_66 ?_
          refine g_imulN O dX9_know_69 ?_
          refine g_iload_n O dX9_know_70 1 rfl rfl ?_
          refine g_iaddN O dX9_know_71 ?_
          refine g_aload_n O dX9_know_72 0 rfl rfl ?_
          refine g_get O hiX9_know_X9 0 rfl rfl 4 (by decide) (by decide +kernel) rfl dX9_know_73 ?_
          refine g_iload_n O dX9_know_76 1 rfl rfl ?_
          refine g_ialdN O 1 rfl (by omega) (by omega) dX9_know_77 ?_
          refine g_iastN (f' := (upd F_ ((208 * k0) + i_) (M i_))) (ws' := [(u0, .inr (9, [.ref u1, .ref u2, .ref u3, .ref u4, .ref u5, .ref u6, .int (nI k0), .ref u7, .int (bB ik), .ref u8, .int (nI ty), .ref u9, .int (nI ta), .int (bB iw), .ref u10, .ref u11])), (u5, .inl (tyI D, 208, .inl M)), (u6, .inl (tyI D, 832, .inl (upd F_ ((208 * k0) + i_) (M i_))))]) O 2 rfl (by omega) (by omega) dX9_know_78 rfl rfl ?_
          refine g_iincN (L' := [(0, .ref u0), (1, .int (nI (i_ + 1)))]) O dX9_know_79 1 rfl (by decide) [1, 0] rfl ?_
          refine g_goto (tgt := 51) O dX9_know_82 (by decide) ?_
          exact ih_ (i_ + 1) _ (by first | assumption | omega | rfl) (by rw [hF]; exact mwF_s _ _ _ _) (by omega)
    exact J51 _ 0 B0 (Nat.zero_le _) ((mwF_0 _ _ _).symm) (Nat.lt_succ_self _)

set_option maxHeartbeats 2000000 in
set_option maxRecDepth 100000 in
theorem kX9_strew_b1 (l : Launch) (D : va_G) (z : Nat × Nat × Nat) (u0 : Nat) (u1 : Nat) (u2 : Nat) (u3 : Nat) (u4 : Nat) (u5 : Nat) (u6 : Nat) (u7 : Nat) (u8 : Nat) (u9 : Nat) (u10 : Nat) (u11 : Nat) (kn : Nat) (ik : Bool) (ty : Nat) (ta : Nat) (iw : Bool) (x : Int32) (y : Int32) (k : Int32) (hb : (rgB x 12 && rgB y 12) = false) : CM l yX9_strew wsX9_strew ({ frames := 2, cells := 0, slots := 0, locals := 43 } : Room) D z [.ref u0, .int x, .int y, .int k] [(u0, .inr (9, [.ref u1, .ref u2, .ref u3, .ref u4, .ref u5, .ref u6, .int (nI kn), .ref u7, .int (bB ik), .ref u8, .int (nI ty), .ref u9, .int (nI ta), .int (bB iw), .ref u10, .ref u11]))] (fun r_ w_ => r_ = some (.int (-1)) ∧ w_ = [(u0, .inr (9, [.ref u1, .ref u2, .ref u3, .ref u4, .ref u5, .ref u6, .int (nI kn), .ref u7, .int (bB ik), .ref u8, .int (nI ty), .ref u9, .int (nI ta), .int (bB iw), .ref u10, .ref u11]))]) 0 0 := by
  refine CM_int (own := RX9) (cc := cX9_strew) (maxL := 4) (L0 := [(0, .ref u0), (1, .int x), (2, .int y), (3, .int k)]) (by decide) rfl rfl (Nat.le_of_ble_eq_true rfl) rfl (fun X O E => ?_)
  refine g_iload_n O dX9_strew_0 1 rfl rfl ?_
  refine g_iload_n O dX9_strew_1 2 rfl rfl ?_
  refine g_callS (As := [.int x, .int y]) (wr := [(u0, .inr (9, [.ref u1, .ref u2, .ref u3, .ref u4, .ref u5, .ref u6, .int (nI kn), .ref u7, .int (bB ik), .ref u8, .int (nI ty), .ref u9, .int (nI ta), .int (bB iw), .ref u10, .ref u11]))]) O (kX9_isOn l D z x y ) gX9_strew_X9_isOn rfl rfl rfl 2 (by decide +kernel) (by decide) (by decide) [] [0] rfl (by decide) rfl (by decide) (by decide) rfl rfl (Nat.le_of_ble_eq_true rfl) dX9_strew_2 (fun r_1 w_2 hp => ?_)
  obtain ⟨rfl, rfl⟩ := hp
  refine g_eq (st' := [.int (bB (rgB x 12 && rgB y 12))]) (ws' := [(u0, .inr (9, [.ref u1, .ref u2, .ref u3, .ref u4, .ref u5, .ref u6, .int (nI kn), .ref u7, .int (bB ik), .ref u8, .int (nI ty), .ref u9, .int (nI ta), .int (bB iw), .ref u10, .ref u11]))]) rfl rfl rfl ?_
  refine g_if_neB (tgt := 10) O dX9_strew_5 (by decide) (fun c_3 => absurd c_3 (by rw [hb]; decide)) (fun c_3 => ?_)
  refine g_iconst (x := (-1)) O dX9_strew_8 (by decide +kernel) ?_
  exact E 9 _ (-1) _ dX9_strew_9 ⟨rfl, rfl⟩

set_option maxHeartbeats 2000000 in
set_option maxRecDepth 100000 in
theorem kX9_strew_b2 (l : Launch) (D : va_G) (z : Nat × Nat × Nat) (u0 : Nat) (u1 : Nat) (u2 : Nat) (u3 : Nat) (u4 : Nat) (u5 : Nat) (u6 : Nat) (u7 : Nat) (u8 : Nat) (u9 : Nat) (u10 : Nat) (u11 : Nat) (kn : Nat) (ik : Bool) (ty : Nat) (ta : Nat) (iw : Bool) (x : Nat) (y : Nat) (k : Int32) (hx : x < 12) (hy : y < 12) (hb : k < nI 1 ∨ nI 99 < k) : CM l yX9_strew wsX9_strew ({ frames := 2, cells := 0, slots := 0, locals := 43 } : Room) D z [.ref u0, .int (nI x), .int (nI y), .int k] [(u0, .inr (9, [.ref u1, .ref u2, .ref u3, .ref u4, .ref u5, .ref u6, .int (nI kn), .ref u7, .int (bB ik), .ref u8, .int (nI ty), .ref u9, .int (nI ta), .int (bB iw), .ref u10, .ref u11]))] (fun r_ w_ => r_ = some (.int (-2)) ∧ w_ = [(u0, .inr (9, [.ref u1, .ref u2, .ref u3, .ref u4, .ref u5, .ref u6, .int (nI kn), .ref u7, .int (bB ik), .ref u8, .int (nI ty), .ref u9, .int (nI ta), .int (bB iw), .ref u10, .ref u11]))]) 0 0 := by
  refine CM_int (own := RX9) (cc := cX9_strew) (maxL := 4) (L0 := [(0, .ref u0), (1, .int (nI x)), (2, .int (nI y)), (3, .int k)]) (by decide) rfl rfl (Nat.le_of_ble_eq_true rfl) rfl (fun X O E => ?_)
  refine g_iload_n O dX9_strew_0 1 rfl rfl ?_
  refine g_iload_n O dX9_strew_1 2 rfl rfl ?_
  refine g_callS (As := [.int (nI x), .int (nI y)]) (wr := [(u0, .inr (9, [.ref u1, .ref u2, .ref u3, .ref u4, .ref u5, .ref u6, .int (nI kn), .ref u7, .int (bB ik), .ref u8, .int (nI ty), .ref u9, .int (nI ta), .int (bB iw), .ref u10, .ref u11]))]) O (kX9_isOn l D z (nI x) (nI y) ) gX9_strew_X9_isOn rfl rfl rfl 2 (by decide +kernel) (by decide) (by decide) [] [0] rfl (by decide) rfl (by decide) (by decide) rfl rfl (Nat.le_of_ble_eq_true rfl) dX9_strew_2 (fun r_1 w_2 hp => ?_)
  obtain ⟨rfl, rfl⟩ := hp
  refine g_eq (st' := [.int (bB (rgB (nI x) 12 && rgB (nI y) 12))]) (ws' := [(u0, .inr (9, [.ref u1, .ref u2, .ref u3, .ref u4, .ref u5, .ref u6, .int (nI kn), .ref u7, .int (bB ik), .ref u8, .int (nI ty), .ref u9, .int (nI ta), .int (bB iw), .ref u10, .ref u11]))]) rfl rfl rfl ?_
  refine g_if_neB (tgt := 10) O dX9_strew_5 (by decide) (fun c_3 => ?_) (fun c_3 => absurd c_3 (by rw [rgB_t hx (by decide), rgB_t hy (by decide)]; decide))
  refine g_iload_n O dX9_strew_10 3 rfl rfl ?_
  refine g_iconst (x := (nI 1)) O dX9_strew_11 (by decide +kernel) ?_
  refine g_bipush (x := (nI 99)) O dX9_strew_12 (by decide +kernel) ?_
  refine g_callS (As := [.int k, .int (nI 1), .int (nI 99)]) (wr := [(u0, .inr (9, [.ref u1, .ref u2, .ref u3, .ref u4, .ref u5, .ref u6, .int (nI kn), .ref u7, .int (bB ik), .ref u8, .int (nI ty), .ref u9, .int (nI ta), .int (bB iw), .ref u10, .ref u11]))]) O (kX9_in l D z k (nI 1) (nI 99) ) gX9_strew_X9_in rfl rfl rfl 3 (by decide +kernel) (by decide) (by decide) [] [0] rfl (by decide) rfl (by decide) (by decide) rfl rfl (Nat.le_of_ble_eq_true rfl) dX9_strew_14 (fun r_4 w_5 hp => ?_)
  obtain ⟨rfl, rfl⟩ := hp
  refine g_eq (st' := [.int (bB (inI k (nI 1) (nI 99)))]) (ws' := [(u0, .inr (9, [.ref u1, .ref u2, .ref u3, .ref u4, .ref u5, .ref u6, .int (nI kn), .ref u7, .int (bB ik), .ref u8, .int (nI ty), .ref u9, .int (nI ta), .int (bB iw), .ref u10, .ref u11]))]) rfl rfl rfl ?_
  refine g_if_neB (tgt := 23) O dX9_strew_17 (by decide) (fun c_6 => absurd c_6 (by rw [inI_f hb]; decide)) (fun c_6 => ?_)
  refine g_bipush (x := (-2)) O dX9_strew_20 (by decide +kernel) ?_
  exact E 22 _ (-2) _ dX9_strew_22 ⟨rfl, rfl⟩

theorem hiX9_strew_X9 : ∀ w ∈ wsX90, w ∈ wsX9_strew := by intro w h; simp only [wsX9_strew, List.mem_append, List.mem_cons, h, or_true, true_or]
set_option maxHeartbeats 2000000 in
set_option maxRecDepth 100000 in
theorem kX9_strew_ok (l : Launch) (D : va_G) (z : Nat × Nat × Nat) (u0 : Nat) (u1 : Nat) (u2 : Nat) (u3 : Nat) (u4 : Nat) (u5 : Nat) (u6 : Nat) (u7 : Nat) (u8 : Nat) (u9 : Nat) (u10 : Nat) (u11 : Nat) (kn : Nat) (ik : Bool) (ty : Nat) (ta : Nat) (iw : Bool) (M : Nat → Int32) (Bf : Nat → Int32) (s : SV) (x : Nat) (y : Nat) (k : Nat) (hM : RM M s) (hkn : kn ≤ 4) (hx : x < 12) (hy : y < 12) (hk1 : 1 ≤ k) (hk2 : k ≤ 99) : CM l yX9_strew wsX9_strew ({ frames := 2, cells := 0, slots := 0, locals := 43 } : Room) D z [.ref u0, .int (nI x), .int (nI y), .int (nI k)] [(u0, .inr (9, [.ref u1, .ref u2, .ref u3, .ref u4, .ref u5, .ref u6, .int (nI kn), .ref u7, .int (bB ik), .ref u8, .int (nI ty), .ref u9, .int (nI ta), .int (bB iw), .ref u10, .ref u11])), (u5, .inl (tyI D, 208, .inl M)), (u6, .inl (tyI D, 832, .inl Bf))] (fun r_ w_ => ∃ (M9 : Nat → Int32), (RM M9 (mkS (upf (sv_g s) (y * 12 + x) ((sv_g s) (y * 12 + x) + k)) (sv_cc s) (sv_cr s) (sv_nc s) (sv_se s) (sv_fs s) (sv_fa s) (sv_fk s) (sv_ps s) (sv_la s) (sv_st s + nI k) (sv_sw s) (sv_fl s) (sv_sk s) (sv_mu s))) ∧ r_ = some (.int (nI (sv_g s (y * 12 + x) + k))) ∧ w_ = [(u0, .inr (9, [.ref u1, .ref u2, .ref u3, .ref u4, .ref u5, .ref u6, .int (nI (rhN kn)), .ref u7, .int (bB ik), .ref u8, .int (nI ty), .ref u9, .int (nI ta), .int (bB iw), .ref u10, .ref u11])), (u5, .inl (tyI D, 208, .inl M9)), (u6, .inl (tyI D, 832, .inl (kwF Bf M kn)))]) 0 0 := by
  refine CM_int (own := RX9) (cc := cX9_strew) (maxL := 4) (L0 := [(0, .ref u0), (1, .int (nI x)), (2, .int (nI y)), (3, .int (nI k))]) (by decide) rfl rfl (Nat.le_of_ble_eq_true rfl) rfl (fun X O E => ?_)
  refine g_iload_n O dX9_strew_0 1 rfl rfl ?_
  refine g_iload_n O dX9_strew_1 2 rfl rfl ?_
  refine g_callS (As := [.int (nI x), .int (nI y)]) (wr := [(u0, .inr (9, [.ref u1, .ref u2, .ref u3, .ref u4, .ref u5, .ref u6, .int (nI kn), .ref u7, .int (bB ik), .ref u8, .int (nI ty), .ref u9, .int (nI ta), .int (bB iw), .ref u10, .ref u11])), (u5, .inl (tyI D, 208, .inl M)), (u6, .inl (tyI D, 832, .inl Bf))]) O (kX9_isOn l D z (nI x) (nI y) ) gX9_strew_X9_isOn rfl rfl rfl 2 (by decide +kernel) (by decide) (by decide) [] [0, 1, 2] rfl (by decide) rfl (by decide) (by decide) rfl rfl (Nat.le_of_ble_eq_true rfl) dX9_strew_2 (fun r_1 w_2 hp => ?_)
  obtain ⟨rfl, rfl⟩ := hp
  refine g_eq (st' := [.int (bB (rgB (nI x) 12 && rgB (nI y) 12))]) (ws' := [(u0, .inr (9, [.ref u1, .ref u2, .ref u3, .ref u4, .ref u5, .ref u6, .int (nI kn), .ref u7, .int (bB ik), .ref u8, .int (nI ty), .ref u9, .int (nI ta), .int (bB iw), .ref u10, .ref u11])), (u5, .inl (tyI D, 208, .inl M)), (u6, .inl (tyI D, 832, .inl Bf))]) rfl rfl rfl ?_
  refine g_if_neB (tgt := 10) O dX9_strew_5 (by decide) (fun c_3 => ?_) (fun c_3 => absurd c_3 (by rw [rgB_t hx (by decide), rgB_t hy (by decide)]; decide))
  refine g_iload_n O dX9_strew_10 3 rfl rfl ?_
  refine g_iconst (x := (nI 1)) O dX9_strew_11 (by decide +kernel) ?_
  refine g_bipush (x := (nI 99)) O dX9_strew_12 (by decide +kernel) ?_
  refine g_callS (As := [.int (nI k), .int (nI 1), .int (nI 99)]) (wr := [(u0, .inr (9, [.ref u1, .ref u2, .ref u3, .ref u4, .ref u5, .ref u6, .int (nI kn), .ref u7, .int (bB ik), .ref u8, .int (nI ty), .ref u9, .int (nI ta), .int (bB iw), .ref u10, .ref u11])), (u5, .inl (tyI D, 208, .inl M)), (u6, .inl (tyI D, 832, .inl Bf))]) O (kX9_in l D z (nI k) (nI 1) (nI 99) ) gX9_strew_X9_in rfl rfl rfl 3 (by decide +kernel) (by decide) (by decide) [] [0, 1, 2] rfl (by decide) rfl (by decide) (by decide) rfl rfl (Nat.le_of_ble_eq_true rfl) dX9_strew_14 (fun r_4 w_5 hp => ?_)
  obtain ⟨rfl, rfl⟩ := hp
  refine g_eq (st' := [.int (bB (inI (nI k) (nI 1) (nI 99)))]) (ws' := [(u0, .inr (9, [.ref u1, .ref u2, .ref u3, .ref u4, .ref u5, .ref u6, .int (nI kn), .ref u7, .int (bB ik), .ref u8, .int (nI ty), .ref u9, .int (nI ta), .int (bB iw), .ref u10, .ref u11])), (u5, .inl (tyI D, 208, .inl M)), (u6, .inl (tyI D, 832, .inl Bf))]) rfl rfl rfl ?_
  refine g_if_neB (tgt := 23) O dX9_strew_17 (by decide) (fun c_6 => ?_) (fun c_6 => absurd c_6 (by rw [inI_t (nI_le (a := 1) (by omega) (by omega)) (nI_le (b := 99) (by omega) (by omega))]; decide))
  refine g_aload_n O dX9_strew_23 0 rfl rfl ?_
  refine g_callV (As := []) (wr := []) O (kX9_know l D z u0 u1 u2 u3 u4 u5 u6 u7 u8 u9 u10 u11 kn ik ty ta iw M Bf (by first | assumption | omega)) gX9_strew_X9_know rfl rfl rfl 0 (by decide +kernel) (by decide) (by decide) (q0 := 0) rfl rfl rfl [0, 1, 2] [] rfl (by decide) rfl (by decide) (by decide) rfl rfl (Nat.le_of_ble_eq_true rfl) dX9_strew_24 (fun r_7 w_8 hp => ?_)
  obtain ⟨rfl, rfl⟩ := hp
  refine g_eq (st' := []) (ws' := [(u0, .inr (9, [.ref u1, .ref u2, .ref u3, .ref u4, .ref u5, .ref u6, .int (nI (rhN kn)), .ref u7, .int (bB ik), .ref u8, .int (nI ty), .ref u9, .int (nI ta), .int (bB iw), .ref u10, .ref u11])), (u5, .inl (tyI D, 208, .inl M)), (u6, .inl (tyI D, 832, .inl (kwF Bf M kn)))]) rfl rfl rfl ?_
  refine g_aload_n O dX9_strew_27 0 rfl rfl ?_
  refine g_get O hiX9_strew_X9 0 rfl rfl 4 (by decide) (by decide +kernel) rfl dX9_strew_28 ?_
  refine g_iconst (x := (nI 0)) O dX9_strew_31 (by decide +kernel) ?_
  refine g_bipush (x := (nI 12)) O dX9_strew_32 (by decide +kernel) ?_
  refine g_iload_n O dX9_strew_34 2 rfl rfl ?_
  refine g_imulN O dX9_strew_35 ?_
  refine g_iaddN O dX9_strew_36 ?_
  refine g_iload_n O dX9_strew_37 1 rfl rfl ?_
  refine g_iaddN O dX9_strew_38 ?_
  refine g_dup2 O dX9_strew_39 rfl rfl ?_
  refine g_ialdN O 1 rfl (by omega) (by omega) dX9_strew_40 ?_
  refine g_eq (st' := [.int (nI (sv_g s (y * 12 + x))), .int (nI ((0 + (12 * y)) + x)), .ref u5]) (by rw [RM_gE hM (show (0 + (12 * y)) + x = (y * 12 + x) by omega) (by omega)]) rfl rfl ?_
  refine g_iload_n O dX9_strew_41 3 rfl rfl ?_
  refine g_iaddN O dX9_strew_42 ?_
  refine g_iastN (f' := (upd M ((0 + (12 * y)) + x) (nI ((sv_g s (y * 12 + x)) + k)))) (ws' := [(u0, .inr (9, [.ref u1, .ref u2, .ref u3, .ref u4, .ref u5, .ref u6, .int (nI (rhN kn)), .ref u7, .int (bB ik), .ref u8, .int (nI ty), .ref u9, .int (nI ta), .int (bB iw), .ref u10, .ref u11])), (u5, .inl (tyI D, 208, .inl (upd M ((0 + (12 * y)) + x) (nI ((sv_g s (y * 12 + x)) + k))))), (u6, .inl (tyI D, 832, .inl (kwF Bf M kn)))]) O 1 rfl (by omega) (by omega) dX9_strew_43 rfl rfl ?_
  have hM1 : RM (upd M ((0 + (12 * y)) + x) (nI ((sv_g s (y * 12 + x)) + k))) (s_g s (upf (sv_g s) (y * 12 + x) (sv_g s (y * 12 + x) + k))) := by rw [show (0 + (12 * y)) + x = y * 12 + x by omega]; exact RM_wg hM (by omega)
  generalize (upd M ((0 + (12 * y)) + x) (nI ((sv_g s (y * 12 + x)) + k))) = M1 at hM1 ⊢
  refine g_aload_n O dX9_strew_44 0 rfl rfl ?_
  refine g_get O hiX9_strew_X9 0 rfl rfl 4 (by decide) (by decide +kernel) rfl dX9_strew_45 ?_
  refine g_sipush (x := (nI 148)) O dX9_strew_48 (by decide +kernel) ?_
  refine g_dup2 O dX9_strew_51 rfl rfl ?_
  refine g_ialdN O 1 rfl (by omega) (by omega) dX9_strew_52 ?_
  refine g_eq (st' := [.int (sv_st (s_g s (upf (sv_g s) (y * 12 + x) (sv_g s (y * 12 + x) + k)))), .int (nI 148), .ref u5]) (by rw [RM_st hM1]) rfl rfl ?_
  refine g_iload_n O dX9_strew_53 3 rfl rfl ?_
  refine g_iadd O dX9_strew_54 ?_
  refine g_iastN (f' := (upd M1 148 ((sv_st (s_g s (upf (sv_g s) (y * 12 + x) (sv_g s (y * 12 + x) + k)))) + (nI k)))) (ws' := [(u0, .inr (9, [.ref u1, .ref u2, .ref u3, .ref u4, .ref u5, .ref u6, .int (nI (rhN kn)), .ref u7, .int (bB ik), .ref u8, .int (nI ty), .ref u9, .int (nI ta), .int (bB iw), .ref u10, .ref u11])), (u5, .inl (tyI D, 208, .inl (upd M1 148 ((sv_st (s_g s (upf (sv_g s) (y * 12 + x) (sv_g s (y * 12 + x) + k)))) + (nI k))))), (u6, .inl (tyI D, 832, .inl (kwF Bf M kn)))]) O 1 rfl (by omega) (by omega) dX9_strew_55 rfl rfl ?_
  have hMf : RM (upd M1 148 ((sv_st (s_g s (upf (sv_g s) (y * 12 + x) (sv_g s (y * 12 + x) + k)))) + (nI k))) (s_st (s_g s (upf (sv_g s) (y * 12 + x) (sv_g s (y * 12 + x) + k))) (sv_st s + nI k)) := RM_wst hM1
  generalize (upd M1 148 ((sv_st (s_g s (upf (sv_g s) (y * 12 + x) (sv_g s (y * 12 + x) + k)))) + (nI k))) = M2 at hMf ⊢
  refine g_aload_n O dX9_strew_56 0 rfl rfl ?_
  refine g_get O hiX9_strew_X9 0 rfl rfl 4 (by decide) (by decide +kernel) rfl dX9_strew_57 ?_
  refine g_iconst (x := (nI 0)) O dX9_strew_60 (by decide +kernel) ?_
  refine g_bipush (x := (nI 12)) O dX9_strew_61 (by decide +kernel) ?_
  refine g_iload_n O dX9_strew_63 2 rfl rfl ?_
  refine g_imulN O dX9_strew_64 ?_
  refine g_iaddN O dX9_strew_65 ?_
  refine g_iload_n O dX9_strew_66 1 rfl rfl ?_
  refine g_iaddN O dX9_strew_67 ?_
  refine g_ialdN O 1 rfl (by omega) (by omega) dX9_strew_68 ?_
  refine g_eq (st' := [.int (nI (sv_g s (y * 12 + x) + k))]) (by rw [RM_gE hMf (show (0 + (12 * y)) + x = y * 12 + x by omega) (by omega), show sv_g (s_st (s_g s (upf (sv_g s) (y * 12 + x) (sv_g s (y * 12 + x) + k))) (sv_st s + nI k)) (y * 12 + x) = sv_g s (y * 12 + x) + k from upf_s _ _ _]) rfl rfl ?_
  exact E 69 _ (nI (sv_g s (y * 12 + x) + k)) _ dX9_strew_69 (⟨_, hMf, rfl, rfl⟩)

set_option maxHeartbeats 2000000 in
set_option maxRecDepth 100000 in
theorem kX9_sweep_b1 (l : Launch) (D : va_G) (z : Nat × Nat × Nat) (u0 : Nat) (u1 : Nat) (u2 : Nat) (u3 : Nat) (u4 : Nat) (u5 : Nat) (u6 : Nat) (u7 : Nat) (u8 : Nat) (u9 : Nat) (u10 : Nat) (u11 : Nat) (kn : Nat) (ik : Bool) (ty : Nat) (ta : Nat) (iw : Bool) (k : Int32) (hb : k < 0 ∨ nI 99 < k) : CM l yX9_sweep wsX9_sweep ({ frames := 1, cells := 0, slots := 0, locals := 22 } : Room) D z [.ref u0, .int k] [(u0, .inr (9, [.ref u1, .ref u2, .ref u3, .ref u4, .ref u5, .ref u6, .int (nI kn), .ref u7, .int (bB ik), .ref u8, .int (nI ty), .ref u9, .int (nI ta), .int (bB iw), .ref u10, .ref u11]))] (fun r_ w_ => r_ = some (.int (-2)) ∧ w_ = [(u0, .inr (9, [.ref u1, .ref u2, .ref u3, .ref u4, .ref u5, .ref u6, .int (nI kn), .ref u7, .int (bB ik), .ref u8, .int (nI ty), .ref u9, .int (nI ta), .int (bB iw), .ref u10, .ref u11]))]) 0 0 := by
  refine CM_int (own := RX9) (cc := cX9_sweep) (maxL := 4) (L0 := [(0, .ref u0), (1, .int k)]) (by decide) rfl rfl (Nat.le_of_ble_eq_true rfl) rfl (fun X O E => ?_)
  refine g_iload_n O dX9_sweep_0 1 rfl rfl ?_
  refine g_iconst (x := (nI 0)) O dX9_sweep_1 (by decide +kernel) ?_
  refine g_bipush (x := (nI 99)) O dX9_sweep_2 (by decide +kernel) ?_
  refine g_callS (As := [.int k, .int (nI 0), .int (nI 99)]) (wr := [(u0, .inr (9, [.ref u1, .ref u2, .ref u3, .ref u4, .ref u5, .ref u6, .int (nI kn), .ref u7, .int (bB ik), .ref u8, .int (nI ty), .ref u9, .int (nI ta), .int (bB iw), .ref u10, .ref u11]))]) O (kX9_in l D z k (nI 0) (nI 99) ) gX9_sweep_X9_in rfl rfl rfl 3 (by decide +kernel) (by decide) (by decide) [] [0] rfl (by decide) rfl (by decide) (by decide) rfl rfl (Nat.le_of_ble_eq_true rfl) dX9_sweep_4 (fun r_1 w_2 hp => ?_)
  obtain ⟨rfl, rfl⟩ := hp
  refine g_eq (st' := [.int (bB (inI k (nI 0) (nI 99)))]) (ws' := [(u0, .inr (9, [.ref u1, .ref u2, .ref u3, .ref u4, .ref u5, .ref u6, .int (nI kn), .ref u7, .int (bB ik), .ref u8, .int (nI ty), .ref u9, .int (nI ta), .int (bB iw), .ref u10, .ref u11]))]) rfl rfl rfl ?_
  refine g_if_neB (tgt := 13) O dX9_sweep_7 (by decide) (fun c_3 => absurd c_3 (by rw [inI_f (lo := nI 0) (by rw [nI_0]; exact hb)]; decide)) (fun c_3 => ?_)
  refine g_bipush (x := (-2)) O dX9_sweep_10 (by decide +kernel) ?_
  exact E 12 _ (-2) _ dX9_sweep_12 ⟨rfl, rfl⟩

theorem hiX9_sweep_X9 : ∀ w ∈ wsX90, w ∈ wsX9_sweep := by intro w h; simp only [wsX9_sweep, List.mem_append, List.mem_cons, h, or_true, true_or]
set_option maxHeartbeats 2000000 in
set_option maxRecDepth 100000 in
theorem kX9_sweep_ok (l : Launch) (D : va_G) (z : Nat × Nat × Nat) (u0 : Nat) (u1 : Nat) (u2 : Nat) (u3 : Nat) (u4 : Nat) (u5 : Nat) (u6 : Nat) (u7 : Nat) (u8 : Nat) (u9 : Nat) (u10 : Nat) (u11 : Nat) (kn : Nat) (ik : Bool) (ty : Nat) (ta : Nat) (iw : Bool) (M : Nat → Int32) (Bf : Nat → Int32) (s : SV) (k : Nat) (hM : RM M s) (hkn : kn ≤ 4) (hk2 : k ≤ 99) : CM l yX9_sweep wsX9_sweep ({ frames := 1, cells := 0, slots := 0, locals := 22 } : Room) D z [.ref u0, .int (nI k)] [(u0, .inr (9, [.ref u1, .ref u2, .ref u3, .ref u4, .ref u5, .ref u6, .int (nI kn), .ref u7, .int (bB ik), .ref u8, .int (nI ty), .ref u9, .int (nI ta), .int (bB iw), .ref u10, .ref u11])), (u5, .inl (tyI D, 208, .inl M)), (u6, .inl (tyI D, 832, .inl Bf))] (fun r_ w_ => ∃ (M9 : Nat → Int32), (RM M9 (mkS (cvf (sv_g s) k 144) (sv_cc s) (sv_cr s) (sv_nc s) (sv_se s) (sv_fs s) (sv_fa s) (sv_fk s) (sv_ps s) (sv_la s) (sv_st s + nI (144 * k)) (sv_sw s + nI (smN (sv_g s) 144)) (sv_fl s) (sv_sk s) (sv_mu s))) ∧ r_ = some (.int (nI (smN (sv_g s) 144))) ∧ w_ = [(u0, .inr (9, [.ref u1, .ref u2, .ref u3, .ref u4, .ref u5, .ref u6, .int (nI (rhN kn)), .ref u7, .int (bB ik), .ref u8, .int (nI ty), .ref u9, .int (nI ta), .int (bB iw), .ref u10, .ref u11])), (u5, .inl (tyI D, 208, .inl M9)), (u6, .inl (tyI D, 832, .inl (kwF Bf M kn)))]) 0 0 := by
  refine CM_int (own := RX9) (cc := cX9_sweep) (maxL := 4) (L0 := [(0, .ref u0), (1, .int (nI k))]) (by decide) rfl rfl (Nat.le_of_ble_eq_true rfl) rfl (fun X O E => ?_)
  refine g_iload_n O dX9_sweep_0 1 rfl rfl ?_
  refine g_iconst (x := (nI 0)) O dX9_sweep_1 (by decide +kernel) ?_
  refine g_bipush (x := (nI 99)) O dX9_sweep_2 (by decide +kernel) ?_
  refine g_callS (As := [.int (nI k), .int (nI 0), .int (nI 99)]) (wr := [(u0, .inr (9, [.ref u1, .ref u2, .ref u3, .ref u4, .ref u5, .ref u6, .int (nI kn), .ref u7, .int (bB ik), .ref u8, .int (nI ty), .ref u9, .int (nI ta), .int (bB iw), .ref u10, .ref u11])), (u5, .inl (tyI D, 208, .inl M)), (u6, .inl (tyI D, 832, .inl Bf))]) O (kX9_in l D z (nI k) (nI 0) (nI 99) ) gX9_sweep_X9_in rfl rfl rfl 3 (by decide +kernel) (by decide) (by decide) [] [0, 1, 2] rfl (by decide) rfl (by decide) (by decide) rfl rfl (Nat.le_of_ble_eq_true rfl) dX9_sweep_4 (fun r_1 w_2 hp => ?_)
  obtain ⟨rfl, rfl⟩ := hp
  refine g_eq (st' := [.int (bB (inI (nI k) (nI 0) (nI 99)))]) (ws' := [(u0, .inr (9, [.ref u1, .ref u2, .ref u3, .ref u4, .ref u5, .ref u6, .int (nI kn), .ref u7, .int (bB ik), .ref u8, .int (nI ty), .ref u9, .int (nI ta), .int (bB iw), .ref u10, .ref u11])), (u5, .inl (tyI D, 208, .inl M)), (u6, .inl (tyI D, 832, .inl Bf))]) rfl rfl rfl ?_
  refine g_if_neB (tgt := 13) O dX9_sweep_7 (by decide) (fun c_3 => ?_) (fun c_3 => absurd c_3 (by rw [inI_t (nI_le (a := 0) (by omega) (by omega)) (nI_le (b := 99) (by omega) (by omega))]; decide))
  refine g_aload_n O dX9_sweep_13 0 rfl rfl ?_
  refine g_callV (As := []) (wr := []) O (kX9_know l D z u0 u1 u2 u3 u4 u5 u6 u7 u8 u9 u10 u11 kn ik ty ta iw M Bf (by first | assumption | omega)) gX9_sweep_X9_know rfl rfl rfl 0 (by decide +kernel) (by decide) (by decide) (q0 := 0) rfl rfl rfl [0, 1, 2] [] rfl (by decide) rfl (by decide) (by decide) rfl rfl (Nat.le_of_ble_eq_true rfl) dX9_sweep_14 (fun r_4 w_5 hp => ?_)
  obtain ⟨rfl, rfl⟩ := hp
  refine g_eq (st' := []) (ws' := [(u0, .inr (9, [.ref u1, .ref u2, .ref u3, .ref u4, .ref u5, .ref u6, .int (nI (rhN kn)), .ref u7, .int (bB ik), .ref u8, .int (nI ty), .ref u9, .int (nI ta), .int (bB iw), .ref u10, .ref u11])), (u5, .inl (tyI D, 208, .inl M)), (u6, .inl (tyI D, 832, .inl (kwF Bf M kn)))]) rfl rfl rfl ?_
  refine g_aload_n O dX9_sweep_17 0 rfl rfl ?_
  refine g_callV (As := []) (wr := [(u6, .inl (tyI D, 832, .inl (kwF Bf M kn)))]) O (kX9_allGrains l D z u0 u1 u2 u3 u4 u5 u6 u7 u8 u9 u10 u11 (rhN kn) ik ty ta iw M s (by first | assumption | omega)) gX9_sweep_X9_allGrains rfl rfl rfl 0 (by decide +kernel) (by decide) (by decide) (q0 := 0) rfl rfl rfl [0, 1] [2] rfl (by decide) rfl (by decide) (by decide) rfl rfl (Nat.le_of_ble_eq_true rfl) dX9_sweep_18 (fun r_6 w_7 hp => ?_)
  obtain ⟨rfl, rfl⟩ := hp
  refine g_eq (st' := [.int (nI (smN (sv_g s) 144))]) (ws' := [(u6, .inl (tyI D, 832, .inl (kwF Bf M kn))), (u0, .inr (9, [.ref u1, .ref u2, .ref u3, .ref u4, .ref u5, .ref u6, .int (nI (rhN kn)), .ref u7, .int (bB ik), .ref u8, .int (nI ty), .ref u9, .int (nI ta), .int (bB iw), .ref u10, .ref u11])), (u5, .inl (tyI D, 208, .inl M))]) rfl rfl rfl ?_
  refine g_istore_n (L' := [(0, .ref u0), (1, .int (nI k)), (2, .int (nI (smN (sv_g s) 144)))]) O dX9_sweep_21 rfl (by decide) [1, 2, 0] rfl ?_
  refine g_aload_n O dX9_sweep_22 0 rfl rfl ?_
  refine g_get O hiX9_sweep_X9 1 rfl rfl 4 (by decide) (by decide +kernel) rfl dX9_sweep_23 ?_
  refine g_sipush (x := (nI 149)) O dX9_sweep_26 (by decide +kernel) ?_
  refine g_dup2 O dX9_sweep_29 rfl rfl ?_
  refine g_ialdN O 2 rfl (by omega) (by omega) dX9_sweep_30 ?_
  refine g_eq (st' := [.int (sv_sw s), .int (nI 149), .ref u5]) (by rw [RM_sw hM]) rfl rfl ?_
  refine g_iload_n O dX9_sweep_31 2 rfl rfl ?_
  refine g_iadd O dX9_sweep_32 ?_
  refine g_iastN (f' := (upd M 149 ((sv_sw s) + (nI (smN (sv_g s) 144))))) (ws' := [(u6, .inl (tyI D, 832, .inl (kwF Bf M kn))), (u0, .inr (9, [.ref u1, .ref u2, .ref u3, .ref u4, .ref u5, .ref u6, .int (nI (rhN kn)), .ref u7, .int (bB ik), .ref u8, .int (nI ty), .ref u9, .int (nI ta), .int (bB iw), .ref u10, .ref u11])), (u5, .inl (tyI D, 208, .inl (upd M 149 ((sv_sw s) + (nI (smN (sv_g s) 144))))))]) O 2 rfl (by omega) (by omega) dX9_sweep_33 rfl rfl ?_
  have hM1 : RM (upd M 149 ((sv_sw s) + (nI (smN (sv_g s) 144)))) (s_sw s (sv_sw s + nI (smN (sv_g s) 144))) := RM_wsw hM
  generalize (upd M 149 ((sv_sw s) + (nI (smN (sv_g s) 144)))) = M1 at hM1 ⊢
  refine g_aload_n O dX9_sweep_34 0 rfl rfl ?_
  refine g_get O hiX9_sweep_X9 1 rfl rfl 4 (by decide) (by decide +kernel) rfl dX9_sweep_35 ?_
  refine g_sipush (x := (nI 148)) O dX9_sweep_38 (by decide +kernel) ?_
  refine g_dup2 O dX9_sweep_41 rfl rfl ?_
  refine g_ialdN O 2 rfl (by omega) (by omega) dX9_sweep_42 ?_
  refine g_eq (st' := [.int (sv_st (s_sw s (sv_sw s + nI (smN (sv_g s) 144)))), .int (nI 148), .ref u5]) (by rw [RM_st hM1]) rfl rfl ?_
  refine g_sipush (x := (nI 144)) O dX9_sweep_43 (by decide +kernel) ?_
  refine g_iload_n O dX9_sweep_46 1 rfl rfl ?_
  refine g_imulN O dX9_sweep_47 ?_
  refine g_iadd O dX9_sweep_48 ?_
  refine g_iastN (f' := (upd M1 148 ((sv_st (s_sw s (sv_sw s + nI (smN (sv_g s) 144)))) + (nI (144 * k))))) (ws' := [(u6, .inl (tyI D, 832, .inl (kwF Bf M kn))), (u0, .inr (9, [.ref u1, .ref u2, .ref u3, .ref u4, .ref u5, .ref u6, .int (nI (rhN kn)), .ref u7, .int (bB ik), .ref u8, .int (nI ty), .ref u9, .int (nI ta), .int (bB iw), .ref u10, .ref u11])), (u5, .inl (tyI D, 208, .inl (upd M1 148 ((sv_st (s_sw s (sv_sw s + nI (smN (sv_g s) 144)))) + (nI (144 * k))))))]) O 2 rfl (by omega) (by omega) dX9_sweep_49 rfl rfl ?_
  have hM2 : RM (upd M1 148 ((sv_st (s_sw s (sv_sw s + nI (smN (sv_g s) 144)))) + (nI (144 * k)))) (s_st (s_sw s (sv_sw s + nI (smN (sv_g s) 144))) (sv_st s + nI (144 * k))) := RM_wst hM1
  generalize (upd M1 148 ((sv_st (s_sw s (sv_sw s + nI (smN (sv_g s) 144)))) + (nI (144 * k)))) = M2 at hM2 ⊢
  refine g_iconst (x := (nI 0)) O dX9_sweep_50 (by decide +kernel) ?_
  refine g_istore_n (L' := [(0, .ref u0), (1, .int (nI k)), (2, .int (nI (smN (sv_g s) 144))), (3, .int (nI 0))]) O dX9_sweep_51 rfl (by decide) [1, 2, 3, 0] rfl ?_
  have J52 : ∀ (n_ : Nat), ∀ (i_ : Nat) (F_ : Nat → Int32) (hi_ : i_ ≤ 144) (hF : RM F_ (s_g (s_st (s_sw s (sv_sw s + nI (smN (sv_g s) 144))) (sv_st s + nI (144 * k))) (cvf (sv_g s) k i_))), 144 - i_ < n_ → G X 0 0 52 [(0, .ref u0), (1, .int (nI k)), (2, .int (nI (smN (sv_g s) 144))), (3, .int (nI i_))] [] [(u6, .inl (tyI D, 832, .inl (kwF Bf M kn))), (u0, .inr (9, [.ref u1, .ref u2, .ref u3, .ref u4, .ref u5, .ref u6, .int (nI (rhN kn)), .ref u7, .int (bB ik), .ref u8, .int (nI ty), .ref u9, .int (nI ta), .int (bB iw), .ref u10, .ref u11])), (u5, .inl (tyI D, 208, .inl F_))] := by
    intro n_
    induction n_ with
    | zero => intro i_ F_ hi_ hF hm_; exact absurd hm_ (Nat.not_lt_zero _)
    | succ n_ ih_ =>
      intro i_ F_ hi_ hF hm_
      refine g_iload_n O dX9_sweep_52 3 rfl rfl ?_
      refine g_sipush (x := (nI 144)) O dX9_sweep_53 (by decide +kernel) ?_
      refine g_icmp_geN (tgt := 74) O (by omega) (by omega) dX9_sweep_56 (by decide) (fun c_8 => ?_) (fun c_8 => ?_)
      ·
        obtain rfl : i_ = 144 := by omega
        refine g_iload_n O dX9_sweep_74 2 rfl rfl ?_
        refine g_perm (ws' := [(u0, .inr (9, [.ref u1, .ref u2, .ref u3, .ref u4, .ref u5, .ref u6, .int (nI (rhN kn)), .ref u7, .int (bB ik), .ref u8, .int (nI ty), .ref u9, .int (nI ta), .int (bB iw), .ref u10, .ref u11])), (u5, .inl (tyI D, 208, .inl F_)), (u6, .inl (tyI D, 832, .inl (kwF Bf M kn)))]) [1, 2, 0] rfl (by decide) ?_
        exact E 75 _ (nI (smN (sv_g s) 144)) _ dX9_sweep_75 (⟨_, hF, rfl, rfl⟩)
      ·
        refine g_aload_n O dX9_sweep_59 0 rfl rfl ?_
        refine g_get O hiX9_sweep_X9 1 rfl rfl 4 (by decide) (by decide +kernel) rfl dX9_sweep_60 ?_
        refine g_iconst (x := (nI 0)) O dX9_sweep_63 (by decide +kernel) ?_
        refine g_iload_n O dX9_sweep_64 3 rfl rfl ?_
        refine g_iaddN O dX9_sweep_65 ?_
        refine g_iload_n O dX9_sweep_66 1 rfl rfl ?_
        refine g_iastN (f' := (upd F_ (0 + i_) (nI k))) (ws' := [(u6, .inl (tyI D, 832, .inl (kwF Bf M kn))), (u0, .inr (9, [.ref u1, .ref u2, .ref u3, .ref u4, .ref u5, .ref u6, .int (nI (rhN kn)), .ref u7, .int (bB ik), .ref u8, .int (nI ty), .ref u9, .int (nI ta), .int (bB iw), .ref u10, .ref u11])), (u5, .inl (tyI D, 208, .inl (upd F_ (0 + i_) (nI k))))]) O 2 rfl (by omega) (by omega) dX9_sweep_67 rfl rfl ?_
        refine g_iincN (L' := [(0, .ref u0), (1, .int (nI k)), (2, .int (nI (smN (sv_g s) 144))), (3, .int (nI (i_ + 1)))]) O dX9_sweep_68 3 rfl (by decide) [1, 2, 3, 0] rfl ?_
        refine g_goto (tgt := 52) O dX9_sweep_71 (by decide) ?_
        exact ih_ (i_ + 1) _ (by first | assumption | omega | rfl) (by rw [Nat.zero_add]; exact RM_wg hF (by omega)) (by omega)
  exact J52 _ 0 M2 (Nat.zero_le _) (hM2) (Nat.lt_succ_self _)

set_option maxHeartbeats 2000000 in
set_option maxRecDepth 100000 in
theorem kX9_clamp_b1 (l : Launch) (D : va_G) (z : Nat × Nat × Nat) (u0 : Nat) (u1 : Nat) (u2 : Nat) (u3 : Nat) (u4 : Nat) (u5 : Nat) (u6 : Nat) (u7 : Nat) (u8 : Nat) (u9 : Nat) (u10 : Nat) (u11 : Nat) (kn : Nat) (ik : Bool) (ty : Nat) (ta : Nat) (iw : Bool) (x : Int32) (y : Int32) (hb : (rgB x 12 && rgB y 12) = false) : CM l yX9_clamp wsX9_clamp ({ frames := 2, cells := 0, slots := 0, locals := 43 } : Room) D z [.ref u0, .int x, .int y] [(u0, .inr (9, [.ref u1, .ref u2, .ref u3, .ref u4, .ref u5, .ref u6, .int (nI kn), .ref u7, .int (bB ik), .ref u8, .int (nI ty), .ref u9, .int (nI ta), .int (bB iw), .ref u10, .ref u11]))] (fun r_ w_ => r_ = some (.int (-1)) ∧ w_ = [(u0, .inr (9, [.ref u1, .ref u2, .ref u3, .ref u4, .ref u5, .ref u6, .int (nI kn), .ref u7, .int (bB ik), .ref u8, .int (nI ty), .ref u9, .int (nI ta), .int (bB iw), .ref u10, .ref u11]))]) 0 0 := by
  refine CM_int (own := RX9) (cc := cX9_clamp) (maxL := 3) (L0 := [(0, .ref u0), (1, .int x), (2, .int y)]) (by decide) rfl rfl (Nat.le_of_ble_eq_true rfl) rfl (fun X O E => ?_)
  refine g_iload_n O dX9_clamp_0 1 rfl rfl ?_
  refine g_iload_n O dX9_clamp_1 2 rfl rfl ?_
  refine g_callS (As := [.int x, .int y]) (wr := [(u0, .inr (9, [.ref u1, .ref u2, .ref u3, .ref u4, .ref u5, .ref u6, .int (nI kn), .ref u7, .int (bB ik), .ref u8, .int (nI ty), .ref u9, .int (nI ta), .int (bB iw), .ref u10, .ref u11]))]) O (kX9_isOn l D z x y ) gX9_clamp_X9_isOn rfl rfl rfl 2 (by decide +kernel) (by decide) (by decide) [] [0] rfl (by decide) rfl (by decide) (by decide) rfl rfl (Nat.le_of_ble_eq_true rfl) dX9_clamp_2 (fun r_1 w_2 hp => ?_)
  obtain ⟨rfl, rfl⟩ := hp
  refine g_eq (st' := [.int (bB (rgB x 12 && rgB y 12))]) (ws' := [(u0, .inr (9, [.ref u1, .ref u2, .ref u3, .ref u4, .ref u5, .ref u6, .int (nI kn), .ref u7, .int (bB ik), .ref u8, .int (nI ty), .ref u9, .int (nI ta), .int (bB iw), .ref u10, .ref u11]))]) rfl rfl rfl ?_
  refine g_if_neB (tgt := 10) O dX9_clamp_5 (by decide) (fun c_3 => absurd c_3 (by rw [hb]; decide)) (fun c_3 => ?_)
  refine g_iconst (x := (-1)) O dX9_clamp_8 (by decide +kernel) ?_
  exact E 9 _ (-1) _ dX9_clamp_9 ⟨rfl, rfl⟩

theorem hiX9_clamp_X9 : ∀ w ∈ wsX90, w ∈ wsX9_clamp := by intro w h; simp only [wsX9_clamp, List.mem_append, List.mem_cons, h, or_true, true_or]
set_option maxHeartbeats 2000000 in
set_option maxRecDepth 100000 in
theorem kX9_clamp_b2 (l : Launch) (D : va_G) (z : Nat × Nat × Nat) (u0 : Nat) (u1 : Nat) (u2 : Nat) (u3 : Nat) (u4 : Nat) (u5 : Nat) (u6 : Nat) (u7 : Nat) (u8 : Nat) (u9 : Nat) (u10 : Nat) (u11 : Nat) (kn : Nat) (ik : Bool) (ty : Nat) (ta : Nat) (iw : Bool) (M : Nat → Int32) (s : SV) (x : Nat) (y : Nat) (hx : x < 12) (hy : y < 12) (hM : RM M s) (hb : sv_nc s = 4) : CM l yX9_clamp wsX9_clamp ({ frames := 2, cells := 0, slots := 0, locals := 43 } : Room) D z [.ref u0, .int (nI x), .int (nI y)] [(u0, .inr (9, [.ref u1, .ref u2, .ref u3, .ref u4, .ref u5, .ref u6, .int (nI kn), .ref u7, .int (bB ik), .ref u8, .int (nI ty), .ref u9, .int (nI ta), .int (bB iw), .ref u10, .ref u11])), (u5, .inl (tyI D, 208, .inl M))] (fun r_ w_ => r_ = some (.int (-3)) ∧ w_ = [(u0, .inr (9, [.ref u1, .ref u2, .ref u3, .ref u4, .ref u5, .ref u6, .int (nI kn), .ref u7, .int (bB ik), .ref u8, .int (nI ty), .ref u9, .int (nI ta), .int (bB iw), .ref u10, .ref u11])), (u5, .inl (tyI D, 208, .inl M))]) 0 0 := by
  refine CM_int (own := RX9) (cc := cX9_clamp) (maxL := 3) (L0 := [(0, .ref u0), (1, .int (nI x)), (2, .int (nI y))]) (by decide) rfl rfl (Nat.le_of_ble_eq_true rfl) rfl (fun X O E => ?_)
  refine g_iload_n O dX9_clamp_0 1 rfl rfl ?_
  refine g_iload_n O dX9_clamp_1 2 rfl rfl ?_
  refine g_callS (As := [.int (nI x), .int (nI y)]) (wr := [(u0, .inr (9, [.ref u1, .ref u2, .ref u3, .ref u4, .ref u5, .ref u6, .int (nI kn), .ref u7, .int (bB ik), .ref u8, .int (nI ty), .ref u9, .int (nI ta), .int (bB iw), .ref u10, .ref u11])), (u5, .inl (tyI D, 208, .inl M))]) O (kX9_isOn l D z (nI x) (nI y) ) gX9_clamp_X9_isOn rfl rfl rfl 2 (by decide +kernel) (by decide) (by decide) [] [0, 1] rfl (by decide) rfl (by decide) (by decide) rfl rfl (Nat.le_of_ble_eq_true rfl) dX9_clamp_2 (fun r_1 w_2 hp => ?_)
  obtain ⟨rfl, rfl⟩ := hp
  refine g_eq (st' := [.int (bB (rgB (nI x) 12 && rgB (nI y) 12))]) (ws' := [(u0, .inr (9, [.ref u1, .ref u2, .ref u3, .ref u4, .ref u5, .ref u6, .int (nI kn), .ref u7, .int (bB ik), .ref u8, .int (nI ty), .ref u9, .int (nI ta), .int (bB iw), .ref u10, .ref u11])), (u5, .inl (tyI D, 208, .inl M))]) rfl rfl rfl ?_
  refine g_if_neB (tgt := 10) O dX9_clamp_5 (by decide) (fun c_3 => ?_) (fun c_3 => absurd c_3 (by rw [rgB_t hx (by decide), rgB_t hy (by decide)]; decide))
  refine g_aload_n O dX9_clamp_10 0 rfl rfl ?_
  refine g_get O hiX9_clamp_X9 0 rfl rfl 4 (by decide) (by decide +kernel) rfl dX9_clamp_11 ?_
  refine g_sipush (x := (nI 154)) O dX9_clamp_14 (by decide +kernel) ?_
  refine g_ialdN O 1 rfl (by omega) (by omega) dX9_clamp_17 ?_
  refine g_eq (st' := [.int (nI (sv_nc s))]) (by rw [RM_nc hM]) rfl rfl ?_
  refine g_iconst (x := (nI 4)) O dX9_clamp_18 (by decide +kernel) ?_
  refine g_icmp_neN (tgt := 25) O (by omega) (by omega) dX9_clamp_19 (by decide) (fun c_4 => absurd c_4 (fun h => h hb)) (fun c_4 => ?_)
  refine g_bipush (x := (-3)) O dX9_clamp_22 (by decide +kernel) ?_
  exact E 24 _ (-3) _ dX9_clamp_24 ⟨rfl, rfl⟩
