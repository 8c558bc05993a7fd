set_option maxHeartbeats 2000000 in
set_option maxRecDepth 100000 in
/-- the calmest place near by -/
theorem kX9_calmest (l : Launch) (D : va_G) (z : Nat × Nat × Nat) (u0 : Nat) (u1 : Nat) (u2 : Nat) (u3 : Nat) (u4 : Nat) (u5 : Nat) (u6 : Nat) (u7 : Nat) (u8 : Nat) (u9 : Nat) (u10 : Nat) (u11 : Nat) (kn : Nat) (ik : Bool) (ty : Nat) (ta : Nat) (iw : Bool) (w : Nat) (p : Nat) (hw : w < 48) (hp : p < 144) : CM l yX9_calmest wsX9_calmest ({ frames := 2, cells := 0, slots := 0, locals := 43 } : Room) D z [.ref u0, .int (nI w), .int (nI p)] [(u0, .inr (9, [.ref u1, .ref u2, .ref u3, .ref u4, .ref u5, .ref u6, .int (nI kn), .ref u7, .int (bB ik), .ref u8, .int (nI ty), .ref u9, .int (nI ta), .int (bB iw), .ref u10, .ref u11])), (u4, .inl (tyI D, 6912, .inl SWT))] (fun r_ w_ => r_ = some (.int (nI (cmN w p))) ∧ w_ = [(u0, .inr (9, [.ref u1, .ref u2, .ref u3, .ref u4, .ref u5, .ref u6, .int (nI kn), .ref u7, .int (bB ik), .ref u8, .int (nI ty), .ref u9, .int (nI ta), .int (bB iw), .ref u10, .ref u11])), (u4, .inl (tyI D, 6912, .inl SWT))]) 0 0 := by
  refine CM_int (own := RX9) (cc := cX9_calmest) (maxL := 9) (L0 := [(0, .ref u0), (1, .int (nI w)), (2, .int (nI p))]) (by decide) rfl rfl (Nat.le_of_ble_eq_true rfl) rfl (fun X O E => ?_)
  refine g_bipush (x := (-5)) O dX9_calmest_0 (by decide +kernel) ?_
  refine g_istore_n (L' := [(0, .ref u0), (1, .int (nI w)), (2, .int (nI p)), (3, .int (-5))]) O dX9_calmest_2 rfl (by decide) [1, 2, 3, 0] rfl ?_
  refine g_iconst (x := (nI 0)) O dX9_calmest_3 (by decide +kernel) ?_
  refine g_istore (L' := [(0, .ref u0), (1, .int (nI w)), (2, .int (nI p)), (3, .int (-5)), (4, .int (nI 0))]) O dX9_calmest_4 (by decide) [1, 2, 3, 4, 0] rfl ?_
  have J6 : ∀ (n_ : Nat), ∀ (k_ : Nat) (o_ : Option Nat) (hk : k_ ≤ 4) (ho : o_ = cmO (SW w) p k_) (hol : ∀ f, o_ = some f → f < 144), 4 - k_ < n_ → G X 0 0 6 [(0, .ref u0), (1, .int (nI w)), (2, .int (nI p)), (3, .int (orN o_)), (4, .int (nI k_))] [] [(u0, .inr (9, [.ref u1, .ref u2, .ref u3, .ref u4, .ref u5, .ref u6, .int (nI kn), .ref u7, .int (bB ik), .ref u8, .int (nI ty), .ref u9, .int (nI ta), .int (bB iw), .ref u10, .ref u11])), (u4, .inl (tyI D, 6912, .inl SWT))] := by
    intro n_
    induction n_ with
    | zero => intro k_ o_ hk ho hol hm_; exact absurd hm_ (Nat.not_lt_zero _)
    | succ n_ ih_ =>
      intro k_ o_ hk ho hol hm_
      rcases (show k_ = 0 ∨ k_ = 1 ∨ k_ = 2 ∨ k_ = 3 ∨ k_ = 4 by omega) with rfl | rfl | rfl | rfl | rfl
      ·
        refine g_iload O dX9_calmest_6 4 rfl ?_
        refine g_iconst (x := (nI 4)) O dX9_calmest_8 (by decide +kernel) ?_
        refine g_icmp_geN (tgt := 134) O (by omega) (by omega) dX9_calmest_9 (by decide) (fun c_1 => absurd c_1 (by decide)) (fun c_1 => ?_)
        refine g_iload_n O dX9_calmest_12 2 rfl rfl ?_
        refine g_bipush (x := (nI 12)) O dX9_calmest_13 (by decide +kernel) ?_
        refine g_iremN O (by omega) (by omega) (by omega) dX9_calmest_15 ?_
        refine g_iload O dX9_calmest_16 4 rfl ?_
        refine g_iconst (x := (nI 1)) O dX9_calmest_18 (by decide +kernel) ?_
        refine g_icmp_neN (tgt := 26) O (by omega) (by omega) dX9_calmest_19 (by decide) (fun c_2 => ?_) (fun c_2 => absurd c_2 (by decide))
        refine g_iload O dX9_calmest_26 4 rfl ?_
        refine g_iconst (x := (nI 2)) O dX9_calmest_28 (by decide +kernel) ?_
        refine g_icmp_neN (tgt := 36) O (by omega) (by omega) dX9_calmest_29 (by decide) (fun c_3 => ?_) (fun c_3 => absurd c_3 (by decide))
        refine g_iconst (x := (nI 0)) O dX9_calmest_36 (by decide +kernel) ?_
        refine g_iaddN O dX9_calmest_37 ?_
        refine g_istore (L' := [(0, .ref u0), (1, .int (nI w)), (2, .int (nI p)), (3, .int (orN o_)), (4, .int (nI 0)), (5, .int (nI ((p % 12) + 0)))]) O dX9_calmest_38 (by decide) [1, 2, 3, 4, 5, 0] rfl ?_
        obtain ⟨X5, hX5⟩ : ∃ x, x = (nI ((p % 12) + 0)) := ⟨_, rfl⟩
        refine g_eq (L' := [(0, .ref u0), (1, .int (nI w)), (2, .int (nI p)), (3, .int (orN o_)), (4, .int (nI 0)), (5, .int X5)]) rfl (by rw [hX5]) rfl ?_
        refine g_iload_n O dX9_calmest_40 2 rfl rfl ?_
        refine g_bipush (x := (nI 12)) O dX9_calmest_41 (by decide +kernel) ?_
        refine g_idivN O (by omega) (by omega) (by omega) dX9_calmest_43 ?_
        refine g_iload O dX9_calmest_44 4 rfl ?_
        refine g_if_neN (tgt := 53) O (by omega) dX9_calmest_46 (by decide) (fun c_4 => absurd c_4 (by decide)) (fun c_4 => ?_)
        refine g_iconst (x := (-1)) O dX9_calmest_49 (by decide +kernel) ?_
        refine g_goto (tgt := 64) O dX9_calmest_50 (by decide) ?_
        refine g_iadd O dX9_calmest_64 ?_
        refine g_istore (L' := [(0, .ref u0), (1, .int (nI w)), (2, .int (nI p)), (3, .int (orN o_)), (4, .int (nI 0)), (5, .int X5), (6, .int ((nI (p / 12)) + (-1)))]) O dX9_calmest_65 (by decide) [1, 2, 3, 4, 5, 6, 0] rfl ?_
        obtain ⟨Y6, hY6⟩ : ∃ x, x = ((nI (p / 12)) + (-1)) := ⟨_, rfl⟩
        refine g_eq (L' := [(0, .ref u0), (1, .int (nI w)), (2, .int (nI p)), (3, .int (orN o_)), (4, .int (nI 0)), (5, .int X5), (6, .int Y6)]) rfl (by rw [hY6]) rfl ?_
        refine g_bipush (x := (nI 12)) O dX9_calmest_67 (by decide +kernel) ?_
        refine g_iload O dX9_calmest_69 6 rfl ?_
        refine g_imul O dX9_calmest_71 ?_
        refine g_iload O dX9_calmest_72 5 rfl ?_
        refine g_iadd O dX9_calmest_74 ?_
        refine g_istore (L' := [(0, .ref u0), (1, .int (nI w)), (2, .int (nI p)), (3, .int (orN o_)), (4, .int (nI 0)), (5, .int X5), (6, .int Y6), (7, .int (((nI 12) * Y6) + X5))]) O dX9_calmest_75 (by decide) [1, 2, 3, 4, 5, 6, 7, 0] rfl ?_
        refine g_iload O dX9_calmest_77 5 rfl ?_
        refine g_iload O dX9_calmest_79 6 rfl ?_
        refine g_callS (As := [.int X5, .int Y6]) (wr := [(u0, .inr (9, [.ref u1, .ref u2, .ref u3, .ref u4, .ref u5, .ref u6, .int (nI kn), .ref u7, .int (bB ik), .ref u8, .int (nI ty), .ref u9, .int (nI ta), .int (bB iw), .ref u10, .ref u11])), (u4, .inl (tyI D, 6912, .inl SWT))]) O (kX9_isOn l D z X5 Y6 ) gX9_calmest_X9_isOn rfl rfl rfl 2 (by decide +kernel) (by decide) (by decide) [] [0, 1] rfl (by decide) rfl (by decide) (by decide) rfl rfl (Nat.le_of_ble_eq_true rfl) dX9_calmest_81 (fun r_5 w_6 hp => ?_)
        obtain ⟨rfl, rfl⟩ := hp
        refine g_eq (st' := [.int (bB (rgB X5 12 && rgB Y6 12))]) (ws' := [(u0, .inr (9, [.ref u1, .ref u2, .ref u3, .ref u4, .ref u5, .ref u6, .int (nI kn), .ref u7, .int (bB ik), .ref u8, .int (nI ty), .ref u9, .int (nI ta), .int (bB iw), .ref u10, .ref u11])), (u4, .inl (tyI D, 6912, .inl SWT))]) rfl rfl rfl ?_
        refine g_if_eqB (tgt := 113) O dX9_calmest_84 (by decide) (fun c_7 => ?_) (fun c_7 => ?_)
        ·
          have hnb : nbP p 0 = rchP X5 Y6 := by rw [hX5, hY6]; simp only [nbP, m1_e, nI_add, Nat.add_zero]
          have hq : cmO (SW w) p (0 + 1) = o_ := by rw [cmO_s, ← ho, hnb, rchP_n c_7]; rfl
          refine g_iconst (x := (nI 0)) O dX9_calmest_113 (by decide +kernel) ?_
          refine g_istore (L' := [(0, .ref u0), (1, .int (nI w)), (2, .int (nI p)), (3, .int (orN o_)), (4, .int (nI 0)), (5, .int X5), (6, .int Y6), (7, .int (((nI 12) * Y6) + X5)), (8, .int (nI 0))]) O dX9_calmest_114 (by decide) [1, 2, 3, 4, 5, 6, 7, 8, 0] rfl ?_
          refine g_iload O dX9_calmest_116 8 rfl ?_
          refine g_if_eqN (tgt := 126) O (by omega) dX9_calmest_118 (by decide) (fun c_8 => ?_) (fun c_8 => absurd c_8 (by decide))
          refine g_iload_n O dX9_calmest_126 3 rfl rfl ?_
          refine g_istore_n (L' := [(0, .ref u0), (1, .int (nI w)), (2, .int (nI p)), (3, .int (orN o_)), (4, .int (nI 0)), (5, .int X5), (6, .int Y6), (7, .int (((nI 12) * Y6) + X5)), (8, .int (nI 0))]) O dX9_calmest_127 rfl (by decide) [1, 2, 3, 0, 4, 5, 6, 7, 8] rfl ?_
          refine g_iincN (L' := [(0, .ref u0), (1, .int (nI w)), (2, .int (nI p)), (3, .int (orN o_)), (4, .int (nI (0 + 1))), (5, .int X5), (6, .int Y6), (7, .int (((nI 12) * Y6) + X5)), (8, .int (nI 0))]) O dX9_calmest_128 4 rfl (by decide) [1, 2, 3, 4, 0, 5, 6, 7, 8] rfl ?_
          refine g_goto (tgt := 6) O dX9_calmest_131 (by decide) ?_
          refine g_locals (L' := [(0, .ref u0), (1, .int (nI w)), (2, .int (nI p)), (3, .int (orN o_)), (4, .int (nI (0 + 1)))]) [0, 1, 2, 3, 4] rfl ?_
          exact ih_ 1 o_ (by first | assumption | omega | rfl) (hq.symm) (by rw [← hq]; exact fun f hf => cmO_lt _ f hf) (by omega)
        ·
          have hnb : nbP p 0 = rchP X5 Y6 := by rw [hX5, hY6]; simp only [nbP, m1_e, nI_add, Nat.add_zero]
          rw [Bool.and_eq_true] at c_7
          obtain ⟨⟨a_, ha, hXa⟩, ⟨d_, hd, hYd⟩⟩ := And.intro ((rgB_iff (by decide)).mp c_7.1) ((rgB_iff (by decide)).mp c_7.2)
          have hr : nbP p 0 = some (12 * d_ + a_) := by rw [hnb, hXa, hYd, rchP_s ha hd, show d_ * 12 + a_ = 12 * d_ + a_ by omega]
          refine g_eq (L' := [(0, .ref u0), (1, .int (nI w)), (2, .int (nI p)), (3, .int (orN o_)), (4, .int (nI 0)), (5, .int (nI a_)), (6, .int (nI d_)), (7, .int (nI (12 * d_ + a_)))]) rfl (by rw [hXa, hYd, pk_mul, nI_add]) rfl ?_
          cases o_ with
          | none =>
            refine g_eq (L' := [(0, .ref u0), (1, .int (nI w)), (2, .int (nI p)), (3, .int (-5)), (4, .int (nI 0)), (5, .int (nI a_)), (6, .int (nI d_)), (7, .int (nI (12 * d_ + a_)))]) rfl rfl rfl ?_
            have hq : cmO (SW w) p (0 + 1) = some (12 * d_ + a_) := by rw [cmO_s, ← ho, hr]; rfl
            refine g_iload_n O dX9_calmest_87 3 rfl rfl ?_
            refine g_bipush (x := (-5)) O dX9_calmest_88 (by decide +kernel) ?_
            refine g_icmp_eq (tgt := 109) O dX9_calmest_90 (by decide) (fun c_9 => ?_) (fun c_9 => absurd c_9 (fun h => h rfl))
            refine g_iconst (x := (nI 1)) O dX9_calmest_109 (by decide +kernel) ?_
            refine g_goto (tgt := 114) O dX9_calmest_110 (by decide) ?_
            refine g_istore (L' := [(0, .ref u0), (1, .int (nI w)), (2, .int (nI p)), (3, .int (-5)), (4, .int (nI 0)), (5, .int (nI a_)), (6, .int (nI d_)), (7, .int (nI (12 * d_ + a_))), (8, .int (nI 1))]) O dX9_calmest_114 (by decide) [1, 2, 3, 4, 5, 6, 7, 8, 0] rfl ?_
            refine g_iload O dX9_calmest_116 8 rfl ?_
            refine g_if_eqN (tgt := 126) O (by omega) dX9_calmest_118 (by decide) (fun c_10 => absurd c_10 (by decide)) (fun c_10 => ?_)
            refine g_iload O dX9_calmest_121 7 rfl ?_
            refine g_goto (tgt := 127) O dX9_calmest_123 (by decide) ?_
            refine g_istore_n (L' := [(0, .ref u0), (1, .int (nI w)), (2, .int (nI p)), (3, .int (nI (12 * d_ + a_))), (4, .int (nI 0)), (5, .int (nI a_)), (6, .int (nI d_)), (7, .int (nI (12 * d_ + a_))), (8, .int (nI 1))]) O dX9_calmest_127 rfl (by decide) [1, 2, 3, 0, 4, 5, 6, 7, 8] rfl ?_
            refine g_iincN (L' := [(0, .ref u0), (1, .int (nI w)), (2, .int (nI p)), (3, .int (nI (12 * d_ + a_))), (4, .int (nI (0 + 1))), (5, .int (nI a_)), (6, .int (nI d_)), (7, .int (nI (12 * d_ + a_))), (8, .int (nI 1))]) O dX9_calmest_128 4 rfl (by decide) [1, 2, 3, 4, 0, 5, 6, 7, 8] rfl ?_
            refine g_goto (tgt := 6) O dX9_calmest_131 (by decide) ?_
            refine g_locals (L' := [(0, .ref u0), (1, .int (nI w)), (2, .int (nI p)), (3, .int (nI (12 * d_ + a_))), (4, .int (nI (0 + 1)))]) [0, 1, 2, 3, 4] rfl ?_
            exact ih_ 1 (some (12 * d_ + a_)) (by first | assumption | omega | rfl) (hq.symm) (by rw [← hq]; exact fun f hf => cmO_lt _ f hf) (by omega)
          | some f_ =>
            have hf144 := hol f_ rfl
            refine g_eq (L' := [(0, .ref u0), (1, .int (nI w)), (2, .int (nI p)), (3, .int (nI f_)), (4, .int (nI 0)), (5, .int (nI a_)), (6, .int (nI d_)), (7, .int (nI (12 * d_ + a_)))]) rfl rfl rfl ?_
            refine g_iload_n O dX9_calmest_87 3 rfl rfl ?_
            refine g_bipush (x := (-5)) O dX9_calmest_88 (by decide +kernel) ?_
            refine g_icmp_eq (tgt := 109) O dX9_calmest_90 (by decide) (fun c_11 => (by exact absurd c_11 (fun h => by have h2 := (nI_toInt (n := f_) (by omega)).symm.trans (congrArg Int32.toInt h); have h3 : (-5 : Int32).toInt = -5 := (by decide +kernel); rw [h3] at h2; omega))) (fun c_11 => ?_)
            refine g_aload_n O dX9_calmest_93 0 rfl rfl ?_
            refine g_iload_n O dX9_calmest_94 1 rfl rfl ?_
            refine g_iload O dX9_calmest_95 7 rfl ?_
            refine g_callV (As := [.int (nI w), .int (nI (12 * d_ + a_))]) (wr := []) O (kX9_swingAt l D z u0 u1 u2 u3 u4 u5 u6 u7 u8 u9 u10 u11 kn ik ty ta iw w (12 * d_ + a_) (by first | assumption | omega) (by first | assumption | omega)) gX9_calmest_X9_swingAt rfl rfl rfl 2 (by decide +kernel) (by decide) (by decide) (q0 := 0) rfl rfl rfl [0, 1] [] rfl (by decide) rfl (by decide) (by decide) rfl rfl (Nat.le_of_ble_eq_true rfl) dX9_calmest_97 (fun r_12 w_13 hp => ?_)
            obtain ⟨rfl, rfl⟩ := hp
            refine g_eq (st' := [.int (SW w (12 * d_ + a_))]) (ws' := [(u0, .inr (9, [.ref u1, .ref u2, .ref u3, .ref u4, .ref u5, .ref u6, .int (nI kn), .ref u7, .int (bB ik), .ref u8, .int (nI ty), .ref u9, .int (nI ta), .int (bB iw), .ref u10, .ref u11])), (u4, .inl (tyI D, 6912, .inl SWT))]) rfl rfl rfl ?_
            refine g_aload_n O dX9_calmest_100 0 rfl rfl ?_
            refine g_iload_n O dX9_calmest_101 1 rfl rfl ?_
            refine g_iload_n O dX9_calmest_102 3 rfl rfl ?_
            refine g_callV (As := [.int (nI w), .int (nI f_)]) (wr := []) O (kX9_swingAt l D z u0 u1 u2 u3 u4 u5 u6 u7 u8 u9 u10 u11 kn ik ty ta iw w f_ (by first | assumption | omega) (by first | assumption | omega)) gX9_calmest_X9_swingAt rfl rfl rfl 2 (by decide +kernel) (by decide) (by decide) (q0 := 0) rfl rfl rfl [0, 1] [] rfl (by decide) rfl (by decide) (by decide) rfl rfl (Nat.le_of_ble_eq_true rfl) dX9_calmest_103 (fun r_14 w_15 hp => ?_)
            obtain ⟨rfl, rfl⟩ := hp
            refine g_eq (st' := [.int (SW w f_), .int (SW w (12 * d_ + a_))]) (ws' := [(u0, .inr (9, [.ref u1, .ref u2, .ref u3, .ref u4, .ref u5, .ref u6, .int (nI kn), .ref u7, .int (bB ik), .ref u8, .int (nI ty), .ref u9, .int (nI ta), .int (bB iw), .ref u10, .ref u11])), (u4, .inl (tyI D, 6912, .inl SWT))]) rfl rfl rfl ?_
            refine g_icmp_ge (tgt := 113) O dX9_calmest_106 (by decide) (fun c_16 => ?_) (fun c_16 => ?_)
            ·
              have hq : cmO (SW w) p (0 + 1) = some f_ := by rw [cmO_s, ← ho, hr]; simp only [cmS]; rw [if_neg (Int32.not_lt.mpr c_16)]
              refine g_iconst (x := (nI 0)) O dX9_calmest_113 (by decide +kernel) ?_
              refine g_istore (L' := [(0, .ref u0), (1, .int (nI w)), (2, .int (nI p)), (3, .int (nI f_)), (4, .int (nI 0)), (5, .int (nI a_)), (6, .int (nI d_)), (7, .int (nI (12 * d_ + a_))), (8, .int (nI 0))]) O dX9_calmest_114 (by decide) [1, 2, 3, 4, 5, 6, 7, 8, 0] rfl ?_
              refine g_iload O dX9_calmest_116 8 rfl ?_
              refine g_if_eqN (tgt := 126) O (by omega) dX9_calmest_118 (by decide) (fun c_17 => ?_) (fun c_17 => absurd c_17 (by decide))
              refine g_iload_n O dX9_calmest_126 3 rfl rfl ?_
              refine g_istore_n (L' := [(0, .ref u0), (1, .int (nI w)), (2, .int (nI p)), (3, .int (nI f_)), (4, .int (nI 0)), (5, .int (nI a_)), (6, .int (nI d_)), (7, .int (nI (12 * d_ + a_))), (8, .int (nI 0))]) O dX9_calmest_127 rfl (by decide) [1, 2, 3, 0, 4, 5, 6, 7, 8] rfl ?_
              refine g_iincN (L' := [(0, .ref u0), (1, .int (nI w)), (2, .int (nI p)), (3, .int (nI f_)), (4, .int (nI (0 + 1))), (5, .int (nI a_)), (6, .int (nI d_)), (7, .int (nI (12 * d_ + a_))), (8, .int (nI 0))]) O dX9_calmest_128 4 rfl (by decide) [1, 2, 3, 4, 0, 5, 6, 7, 8] rfl ?_
              refine g_goto (tgt := 6) O dX9_calmest_131 (by decide) ?_
              refine g_locals (L' := [(0, .ref u0), (1, .int (nI w)), (2, .int (nI p)), (3, .int (nI f_)), (4, .int (nI (0 + 1)))]) [0, 1, 2, 3, 4] rfl ?_
              exact ih_ 1 (some (f_)) (by first | assumption | omega | rfl) (hq.symm) (by rw [← hq]; exact fun f hf => cmO_lt _ f hf) (by omega)
            ·
              have hq : cmO (SW w) p (0 + 1) = some (12 * d_ + a_) := by rw [cmO_s, ← ho, hr]; simp only [cmS]; rw [if_pos (Int32.not_le.mp c_16)]
              refine g_iconst (x := (nI 1)) O dX9_calmest_109 (by decide +kernel) ?_
              refine g_goto (tgt := 114) O dX9_calmest_110 (by decide) ?_
              refine g_istore (L' := [(0, .ref u0), (1, .int (nI w)), (2, .int (nI p)), (3, .int (nI f_)), (4, .int (nI 0)), (5, .int (nI a_)), (6, .int (nI d_)), (7, .int (nI (12 * d_ + a_))), (8, .int (nI 1))]) O dX9_calmest_114 (by decide) [1, 2, 3, 4, 5, 6, 7, 8, 0] rfl ?_
              refine g_iload O dX9_calmest_116 8 rfl ?_
              refine g_if_eqN (tgt := 126) O (by omega) dX9_calmest_118 (by decide) (fun c_18 => absurd c_18 (by decide)) (fun c_18 => ?_)
              refine g_iload O dX9_calmest_121 7 rfl ?_
              refine g_goto (tgt := 127) O dX9_calmest_123 (by decide) ?_
              refine g_istore_n (L' := [(0, .ref u0), (1, .int (nI w)), (2, .int (nI p)), (3, .int (nI (12 * d_ + a_))), (4, .int (nI 0)), (5, .int (nI a_)), (6, .int (nI d_)), (7, .int (nI (12 * d_ + a_))), (8, .int (nI 1))]) O dX9_calmest_127 rfl (by decide) [1, 2, 3, 0, 4, 5, 6, 7, 8] rfl ?_
              refine g_iincN (L' := [(0, .ref u0), (1, .int (nI w)), (2, .int (nI p)), (3, .int (nI (12 * d_ + a_))), (4, .int (nI (0 + 1))), (5, .int (nI a_)), (6, .int (nI d_)), (7, .int (nI (12 * d_ + a_))), (8, .int (nI 1))]) O dX9_calmest_128 4 rfl (by decide) [1, 2, 3, 4, 0, 5, 6, 7, 8] rfl ?_
              refine g_goto (tgt := 6) O dX9_calmest_131 (by decide) ?_
              refine g_locals (L' := [(0, .ref u0), (1, .int (nI w)), (2, .int (nI p)), (3, .int (nI (12 * d_ + a_))), (4, .int (nI (0 + 1)))]) [0, 1, 2, 3, 4] rfl ?_
              exact ih_ 1 (some (12 * d_ + a_)) (by first | assumption | omega | rfl) (hq.symm) (by rw [← hq]; exact fun f hf => cmO_lt _ f hf) (by omega)
      ·
        refine g_iload O dX9_calmest_6 4 rfl ?_
        refine g_iconst (x := (nI 4)) O dX9_calmest_8 (by decide +kernel) ?_
        refine g_icmp_geN (tgt := 134) O (by omega) (by omega) dX9_calmest_9 (by decide) (fun c_19 => absurd c_19 (by decide)) (fun c_19 => ?_)
        refine g_iload_n O dX9_calmest_12 2 rfl rfl ?_
        refine g_bipush (x := (nI 12)) O dX9_calmest_13 (by decide +kernel) ?_
        refine g_iremN O (by omega) (by omega) (by omega) dX9_calmest_15 ?_
        refine g_iload O dX9_calmest_16 4 rfl ?_
        refine g_iconst (x := (nI 1)) O dX9_calmest_18 (by decide +kernel) ?_
        refine g_icmp_neN (tgt := 26) O (by omega) (by omega) dX9_calmest_19 (by decide) (fun c_20 => absurd c_20 (by decide)) (fun c_20 => ?_)
        refine g_iconst (x := (-1)) O dX9_calmest_22 (by decide +kernel) ?_
        refine g_goto (tgt := 37) O dX9_calmest_23 (by decide) ?_
        refine g_iadd O dX9_calmest_37 ?_
        refine g_istore (L' := [(0, .ref u0), (1, .int (nI w)), (2, .int (nI p)), (3, .int (orN o_)), (4, .int (nI 1)), (5, .int ((nI (p % 12)) + (-1)))]) O dX9_calmest_38 (by decide) [1, 2, 3, 4, 5, 0] rfl ?_
        obtain ⟨X5, hX5⟩ : ∃ x, x = ((nI (p % 12)) + (-1)) := ⟨_, rfl⟩
        refine g_eq (L' := [(0, .ref u0), (1, .int (nI w)), (2, .int (nI p)), (3, .int (orN o_)), (4, .int (nI 1)), (5, .int X5)]) rfl (by rw [hX5]) rfl ?_
        refine g_iload_n O dX9_calmest_40 2 rfl rfl ?_
        refine g_bipush (x := (nI 12)) O dX9_calmest_41 (by decide +kernel) ?_
        refine g_idivN O (by omega) (by omega) (by omega) dX9_calmest_43 ?_
        refine g_iload O dX9_calmest_44 4 rfl ?_
        refine g_if_neN (tgt := 53) O (by omega) dX9_calmest_46 (by decide) (fun c_21 => ?_) (fun c_21 => absurd c_21 (by decide))
        refine g_iload O dX9_calmest_53 4 rfl ?_
        refine g_iconst (x := (nI 3)) O dX9_calmest_55 (by decide +kernel) ?_
        refine g_icmp_neN (tgt := 63) O (by omega) (by omega) dX9_calmest_56 (by decide) (fun c_22 => ?_) (fun c_22 => absurd c_22 (by decide))
        refine g_iconst (x := (nI 0)) O dX9_calmest_63 (by decide +kernel) ?_
        refine g_iaddN O dX9_calmest_64 ?_
        refine g_istore (L' := [(0, .ref u0), (1, .int (nI w)), (2, .int (nI p)), (3, .int (orN o_)), (4, .int (nI 1)), (5, .int X5), (6, .int (nI ((p / 12) + 0)))]) O dX9_calmest_65 (by decide) [1, 2, 3, 4, 5, 6, 0] rfl ?_
        obtain ⟨Y6, hY6⟩ : ∃ x, x = (nI ((p / 12) + 0)) := ⟨_, rfl⟩
        refine g_eq (L' := [(0, .ref u0), (1, .int (nI w)), (2, .int (nI p)), (3, .int (orN o_)), (4, .int (nI 1)), (5, .int X5), (6, .int Y6)]) rfl (by rw [hY6]) rfl ?_
        refine g_bipush (x := (nI 12)) O dX9_calmest_67 (by decide +kernel) ?_
        refine g_iload O dX9_calmest_69 6 rfl ?_
        refine g_imul O dX9_calmest_71 ?_
        refine g_iload O dX9_calmest_72 5 rfl ?_
        refine g_iadd O dX9_calmest_74 ?_
        refine g_istore (L' := [(0, .ref u0), (1, .int (nI w)), (2, .int (nI p)), (3, .int (orN o_)), (4, .int (nI 1)), (5, .int X5), (6, .int Y6), (7, .int (((nI 12) * Y6) + X5))]) O dX9_calmest_75 (by decide) [1, 2, 3, 4, 5, 6, 7, 0] rfl ?_
        refine g_iload O dX9_calmest_77 5 rfl ?_
        refine g_iload O dX9_calmest_79 6 rfl ?_
        refine g_callS (As := [.int X5, .int Y6]) (wr := [(u0, .inr (9, [.ref u1, .ref u2, .ref u3, .ref u4, .ref u5, .ref u6, .int (nI kn), .ref u7, .int (bB ik), .ref u8, .int (nI ty), .ref u9, .int (nI ta), .int (bB iw), .ref u10, .ref u11])), (u4, .inl (tyI D, 6912, .inl SWT))]) O (kX9_isOn l D z X5 Y6 ) gX9_calmest_X9_isOn rfl rfl rfl 2 (by decide +kernel) (by decide) (by decide) [] [0, 1] rfl (by decide) rfl (by decide) (by decide) rfl rfl (Nat.le_of_ble_eq_true rfl) dX9_calmest_81 (fun r_23 w_24 hp => ?_)
        obtain ⟨rfl, rfl⟩ := hp
        refine g_eq (st' := [.int (bB (rgB X5 12 && rgB Y6 12))]) (ws' := [(u0, .inr (9, [.ref u1, .ref u2, .ref u3, .ref u4, .ref u5, .ref u6, .int (nI kn), .ref u7, .int (bB ik), .ref u8, .int (nI ty), .ref u9, .int (nI ta), .int (bB iw), .ref u10, .ref u11])), (u4, .inl (tyI D, 6912, .inl SWT))]) rfl rfl rfl ?_
        refine g_if_eqB (tgt := 113) O dX9_calmest_84 (by decide) (fun c_25 => ?_) (fun c_25 => ?_)
        ·
          have hnb : nbP p 1 = rchP X5 Y6 := by rw [hX5, hY6]; simp only [nbP, m1_e, nI_add, Nat.add_zero]
          have hq : cmO (SW w) p (1 + 1) = o_ := by rw [cmO_s, ← ho, hnb, rchP_n c_25]; rfl
          refine g_iconst (x := (nI 0)) O dX9_calmest_113 (by decide +kernel) ?_
          refine g_istore (L' := [(0, .ref u0), (1, .int (nI w)), (2, .int (nI p)), (3, .int (orN o_)), (4, .int (nI 1)), (5, .int X5), (6, .int Y6), (7, .int (((nI 12) * Y6) + X5)), (8, .int (nI 0))]) O dX9_calmest_114 (by decide) [1, 2, 3, 4, 5, 6, 7, 8, 0] rfl ?_
          refine g_iload O dX9_calmest_116 8 rfl ?_
          refine g_if_eqN (tgt := 126) O (by omega) dX9_calmest_118 (by decide) (fun c_26 => ?_) (fun c_26 => absurd c_26 (by decide))
          refine g_iload_n O dX9_calmest_126 3 rfl rfl ?_
          refine g_istore_n (L' := [(0, .ref u0), (1, .int (nI w)), (2, .int (nI p)), (3, .int (orN o_)), (4, .int (nI 1)), (5, .int X5), (6, .int Y6), (7, .int (((nI 12) * Y6) + X5)), (8, .int (nI 0))]) O dX9_calmest_127 rfl (by decide) [1, 2, 3, 0, 4, 5, 6, 7, 8] rfl ?_
          refine g_iincN (L' := [(0, .ref u0), (1, .int (nI w)), (2, .int (nI p)), (3, .int (orN o_)), (4, .int (nI (1 + 1))), (5, .int X5), (6, .int Y6), (7, .int (((nI 12) * Y6) + X5)), (8, .int (nI 0))]) O dX9_calmest_128 4 rfl (by decide) [1, 2, 3, 4, 0, 5, 6, 7, 8] rfl ?_
          refine g_goto (tgt := 6) O dX9_calmest_131 (by decide) ?_
          refine g_locals (L' := [(0, .ref u0), (1, .int (nI w)), (2, .int (nI p)), (3, .int (orN o_)), (4, .int (nI (1 + 1)))]) [0, 1, 2, 3, 4] rfl ?_
          exact ih_ 2 o_ (by first | assumption | omega | rfl) (hq.symm) (by rw [← hq]; exact fun f hf => cmO_lt _ f hf) (by omega)
        ·
          have hnb : nbP p 1 = rchP X5 Y6 := by rw [hX5, hY6]; simp only [nbP, m1_e, nI_add, Nat.add_zero]
          rw [Bool.and_eq_true] at c_25
          obtain ⟨⟨a_, ha, hXa⟩, ⟨d_, hd, hYd⟩⟩ := And.intro ((rgB_iff (by decide)).mp c_25.1) ((rgB_iff (by decide)).mp c_25.2)
          have hr : nbP p 1 = some (12 * d_ + a_) := by rw [hnb, hXa, hYd, rchP_s ha hd, show d_ * 12 + a_ = 12 * d_ + a_ by omega]
          refine g_eq (L' := [(0, .ref u0), (1, .int (nI w)), (2, .int (nI p)), (3, .int (orN o_)), (4, .int (nI 1)), (5, .int (nI a_)), (6, .int (nI d_)), (7, .int (nI (12 * d_ + a_)))]) rfl (by rw [hXa, hYd, pk_mul, nI_add]) rfl ?_
          cases o_ with
          | none =>
            refine g_eq (L' := [(0, .ref u0), (1, .int (nI w)), (2, .int (nI p)), (3, .int (-5)), (4, .int (nI 1)), (5, .int (nI a_)), (6, .int (nI d_)), (7, .int (nI (12 * d_ + a_)))]) rfl rfl rfl ?_
            have hq : cmO (SW w) p (1 + 1) = some (12 * d_ + a_) := by rw [cmO_s, ← ho, hr]; rfl
            refine g_iload_n O dX9_calmest_87 3 rfl rfl ?_
            refine g_bipush (x := (-5)) O dX9_calmest_88 (by decide +kernel) ?_
            refine g_icmp_eq (tgt := 109) O dX9_calmest_90 (by decide) (fun c_27 => ?_) (fun c_27 => absurd c_27 (fun h => h rfl))
            refine g_iconst (x := (nI 1)) O dX9_calmest_109 (by decide +kernel) ?_
            refine g_goto (tgt := 114) O dX9_calmest_110 (by decide) ?_
            refine g_istore (L' := [(0, .ref u0), (1, .int (nI w)), (2, .int (nI p)), (3, .int (-5)), (4, .int (nI 1)), (5, .int (nI a_)), (6, .int (nI d_)), (7, .int (nI (12 * d_ + a_))), (8, .int (nI 1))]) O dX9_calmest_114 (by decide) [1, 2, 3, 4, 5, 6, 7, 8, 0] rfl ?_
            refine g_iload O dX9_calmest_116 8 rfl ?_
            refine g_if_eqN (tgt := 126) O (by omega) dX9_calmest_118 (by decide) (fun c_28 => absurd c_28 (by decide)) (fun c_28 => ?_)
            refine g_iload O dX9_calmest_121 7 rfl ?_
            refine g_goto (tgt := 127) O dX9_calmest_123 (by decide) ?_
            refine g_istore_n (L' := [(0, .ref u0), (1, .int (nI w)), (2, .int (nI p)), (3, .int (nI (12 * d_ + a_))), (4, .int (nI 1)), (5, .int (nI a_)), (6, .int (nI d_)), (7, .int (nI (12 * d_ + a_))), (8, .int (nI 1))]) O dX9_calmest_127 rfl (by decide) [1, 2, 3, 0, 4, 5, 6, 7, 8] rfl ?_
            refine g_iincN (L' := [(0, .ref u0), (1, .int (nI w)), (2, .int (nI p)), (3, .int (nI (12 * d_ + a_))), (4, .int (nI (1 + 1))), (5, .int (nI a_)), (6, .int (nI d_)), (7, .int (nI (12 * d_ + a_))), (8, .int (nI 1))]) O dX9_calmest_128 4 rfl (by decide) [1, 2, 3, 4, 0, 5, 6, 7, 8] rfl ?_
            refine g_goto (tgt := 6) O dX9_calmest_131 (by decide) ?_
            refine g_locals (L' := [(0, .ref u0), (1, .int (nI w)), (2, .int (nI p)), (3, .int (nI (12 * d_ + a_))), (4, .int (nI (1 + 1)))]) [0, 1, 2, 3, 4] rfl ?_
            exact ih_ 2 (some (12 * d_ + a_)) (by first | assumption | omega | rfl) (hq.symm) (by rw [← hq]; exact fun f hf => cmO_lt _ f hf) (by omega)
          | some f_ =>
            have hf144 := hol f_ rfl
            refine g_eq (L' := [(0, .ref u0), (1, .int (nI w)), (2, .int (nI p)), (3, .int (nI f_)), (4, .int (nI 1)), (5, .int (nI a_)), (6, .int (nI d_)), (7, .int (nI (12 * d_ + a_)))]) rfl rfl rfl ?_
            refine g_iload_n O dX9_calmest_87 3 rfl rfl ?_
            refine g_bipush (x := (-5)) O dX9_calmest_88 (by decide +kernel) ?_
            refine g_icmp_eq (tgt := 109) O dX9_calmest_90 (by decide) (fun c_29 => (by exact absurd c_29 (fun h => by have h2 := (nI_toInt (n := f_) (by omega)).symm.trans (congrArg Int32.toInt h); have h3 : (-5 : Int32).toInt = -5 := (by decide +kernel); rw [h3] at h2; omega))) (fun c_29 => ?_)
            refine g_aload_n O dX9_calmest_93 0 rfl rfl ?_
            refine g_iload_n O dX9_calmest_94 1 rfl rfl ?_
            refine g_iload O dX9_calmest_95 7 rfl ?_
            refine g_callV (As := [.int (nI w), .int (nI (12 * d_ + a_))]) (wr := []) O (kX9_swingAt l D z u0 u1 u2 u3 u4 u5 u6 u7 u8 u9 u10 u11 kn ik ty ta iw w (12 * d_ + a_) (by first | assumption | omega) (by first | assumption | omega)) gX9_calmest_X9_swingAt rfl rfl rfl 2 (by decide +kernel) (by decide) (by decide) (q0 := 0) rfl rfl rfl [0, 1] [] rfl (by decide) rfl (by decide) (by decide) rfl rfl (Nat.le_of_ble_eq_true rfl) dX9_calmest_97 (fun r_30 w_31 hp => ?_)
            obtain ⟨rfl, rfl⟩ := hp
            refine g_eq (st' := [.int (SW w (12 * d_ + a_))]) (ws' := [(u0, .inr (9, [.ref u1, .ref u2, .ref u3, .ref u4, .ref u5, .ref u6, .int (nI kn), .ref u7, .int (bB ik), .ref u8, .int (nI ty), .ref u9, .int (nI ta), .int (bB iw), .ref u10, .ref u11])), (u4, .inl (tyI D, 6912, .inl SWT))]) rfl rfl rfl ?_
            refine g_aload_n O dX9_calmest_100 0 rfl rfl ?_
            refine g_iload_n O dX9_calmest_101 1 rfl rfl ?_
            refine g_iload_n O dX9_calmest_102 3 rfl rfl ?_
            refine g_callV (As := [.int (nI w), .int (nI f_)]) (wr := []) O (kX9_swingAt l D z u0 u1 u2 u3 u4 u5 u6 u7 u8 u9 u10 u11 kn ik ty ta iw w f_ (by first | assumption | omega) (by first | assumption | omega)) gX9_calmest_X9_swingAt rfl rfl rfl 2 (by decide +kernel) (by decide) (by decide) (q0 := 0) rfl rfl rfl [0, 1] [] rfl (by decide) rfl (by decide) (by decide) rfl rfl (Nat.le_of_ble_eq_true rfl) dX9_calmest_103 (fun r_32 w_33 hp => ?_)
            obtain ⟨rfl, rfl⟩ := hp
            refine g_eq (st' := [.int (SW w f_), .int (SW w (12 * d_ + a_))]) (ws' := [(u0, .inr (9, [.ref u1, .ref u2, .ref u3, .ref u4, .ref u5, .ref u6, .int (nI kn), .ref u7, .int (bB ik), .ref u8, .int (nI ty), .ref u9, .int (nI ta), .int (bB iw), .ref u10, .ref u11])), (u4, .inl (tyI D, 6912, .inl SWT))]) rfl rfl rfl ?_
            refine g_icmp_ge (tgt := 113) O dX9_calmest_106 (by decide) (fun c_34 => ?_) (fun c_34 => ?_)
            ·
              have hq : cmO (SW w) p (1 + 1) = some f_ := by rw [cmO_s, ← ho, hr]; simp only [cmS]; rw [if_neg (Int32.not_lt.mpr c_34)]
              refine g_iconst (x := (nI 0)) O dX9_calmest_113 (by decide +kernel) ?_
              refine g_istore (L' := [(0, .ref u0), (1, .int (nI w)), (2, .int (nI p)), (3, .int (nI f_)), (4, .int (nI 1)), (5, .int (nI a_)), (6, .int (nI d_)), (7, .int (nI (12 * d_ + a_))), (8, .int (nI 0))]) O dX9_calmest_114 (by decide) [1, 2, 3, 4, 5, 6, 7, 8, 0] rfl ?_
              refine g_iload O dX9_calmest_116 8 rfl ?_
              refine g_if_eqN (tgt := 126) O (by omega) dX9_calmest_118 (by decide) (fun c_35 => ?_) (fun c_35 => absurd c_35 (by decide))
              refine g_iload_n O dX9_calmest_126 3 rfl rfl ?_
              refine g_istore_n (L' := [(0, .ref u0), (1, .int (nI w)), (2, .int (nI p)), (3, .int (nI f_)), (4, .int (nI 1)), (5, .int (nI a_)), (6, .int (nI d_)), (7, .int (nI (12 * d_ + a_))), (8, .int (nI 0))]) O dX9_calmest_127 rfl (by decide) [1, 2, 3, 0, 4, 5, 6, 7, 8] rfl ?_
              refine g_iincN (L' := [(0, .ref u0), (1, .int (nI w)), (2, .int (nI p)), (3, .int (nI f_)), (4, .int (nI (1 + 1))), (5, .int (nI a_)), (6, .int (nI d_)), (7, .int (nI (12 * d_ + a_))), (8, .int (nI 0))]) O dX9_calmest_128 4 rfl (by decide) [1, 2, 3, 4, 0, 5, 6, 7, 8] rfl ?_
              refine g_goto (tgt := 6) O dX9_calmest_131 (by decide) ?_
              refine g_locals (L' := [(0, .ref u0), (1, .int (nI w)), (2, .int (nI p)), (3, .int (nI f_)), (4, .int (nI (1 + 1)))]) [0, 1, 2, 3, 4] rfl ?_
              exact ih_ 2 (some (f_)) (by first | assumption | omega | rfl) (hq.symm) (by rw [← hq]; exact fun f hf => cmO_lt _ f hf) (by omega)
            ·
              have hq : cmO (SW w) p (1 + 1) = some (12 * d_ + a_) := by rw [cmO_s, ← ho, hr]; simp only [cmS]; rw [if_pos (Int32.not_le.mp c_34)]
              refine g_iconst (x := (nI 1)) O dX9_calmest_109 (by decide +kernel) ?_
              refine g_goto (tgt := 114) O dX9_calmest_110 (by decide) ?_
              refine g_istore (L' := [(0, .ref u0), (1, .int (nI w)), (2, .int (nI p)), (3, .int (nI f_)), (4, .int (nI 1)), (5, .int (nI a_)), (6, .int (nI d_)), (7, .int (nI (12 * d_ + a_))), (8, .int (nI 1))]) O dX9_calmest_114 (by decide) [1, 2, 3, 4, 5, 6, 7, 8, 0] rfl ?_
              refine g_iload O dX9_calmest_116 8 rfl ?_
              refine g_if_eqN (tgt := 126) O (by omega) dX9_calmest_118 (by decide) (fun c_36 => absurd c_36 (by decide)) (fun c_36 => ?_)
              refine g_iload O dX9_calmest_121 7 rfl ?_
              refine g_goto (tgt := 127) O dX9_calmest_123 (by decide) ?_
              refine g_istore_n (L' := [(0, .ref u0), (1, .int (nI w)), (2, .int (nI p)), (3, .int (nI (12 * d_ + a_))), (4, .int (nI 1)), (5, .int (nI a_)), (6, .int (nI d_)), (7, .int (nI (12 * d_ + a_))), (8, .int (nI 1))]) O dX9_calmest_127 rfl (by decide) [1, 2, 3, 0, 4, 5, 6, 7, 8] rfl ?_
              refine g_iincN (L' := [(0, .ref u0), (1, .int (nI w)), (2, .int (nI p)), (3, .int (nI (12 * d_ + a_))), (4, .int (nI (1 + 1))), (5, .int (nI a_)), (6, .int (nI d_)), (7, .int (nI (12 * d_ + a_))), (8, .int (nI 1))]) O dX9_calmest_128 4 rfl (by decide) [1, 2, 3, 4, 0, 5, 6, 7, 8] rfl ?_
              refine g_goto (tgt := 6) O dX9_calmest_131 (by decide) ?_
              refine g_locals (L' := [(0, .ref u0), (1, .int (nI w)), (2, .int (nI p)), (3, .int (nI (12 * d_ + a_))), (4, .int (nI (1 + 1)))]) [0, 1, 2, 3, 4] rfl ?_
              exact ih_ 2 (some (12 * d_ + a_)) (by first | assumption | omega | rfl) (hq.symm) (by rw [← hq]; exact fun f hf => cmO_lt _ f hf) (by omega)
      ·
        refine g_iload O dX9_calmest_6 4 rfl ?_
        refine g_iconst (x := (nI 4)) O dX9_calmest_8 (by decide +kernel) ?_
        refine g_icmp_geN (tgt := 134) O (by omega) (by omega) dX9_calmest_9 (by decide) (fun c_37 => absurd c_37 (by decide)) (fun c_37 => ?_)
        refine g_iload_n O dX9_calmest_12 2 rfl rfl ?_
        refine g_bipush (x := (nI 12)) O dX9_calmest_13 (by decide +kernel) ?_
        refine g_iremN O (by omega) (by omega) (by omega) dX9_calmest_15 ?_
        refine g_iload O dX9_calmest_16 4 rfl ?_
        refine g_iconst (x := (nI 1)) O dX9_calmest_18 (by decide +kernel) ?_
        refine g_icmp_neN (tgt := 26) O (by omega) (by omega) dX9_calmest_19 (by decide) (fun c_38 => ?_) (fun c_38 => absurd c_38 (by decide))
        refine g_iload O dX9_calmest_26 4 rfl ?_
        refine g_iconst (x := (nI 2)) O dX9_calmest_28 (by decide +kernel) ?_
        refine g_icmp_neN (tgt := 36) O (by omega) (by omega) dX9_calmest_29 (by decide) (fun c_39 => absurd c_39 (by decide)) (fun c_39 => ?_)
        refine g_iconst (x := (nI 1)) O dX9_calmest_32 (by decide +kernel) ?_
        refine g_goto (tgt := 37) O dX9_calmest_33 (by decide) ?_
        refine g_iaddN O dX9_calmest_37 ?_
        refine g_istore (L' := [(0, .ref u0), (1, .int (nI w)), (2, .int (nI p)), (3, .int (orN o_)), (4, .int (nI 2)), (5, .int (nI ((p % 12) + 1)))]) O dX9_calmest_38 (by decide) [1, 2, 3, 4, 5, 0] rfl ?_
        obtain ⟨X5, hX5⟩ : ∃ x, x = (nI ((p % 12) + 1)) := ⟨_, rfl⟩
        refine g_eq (L' := [(0, .ref u0), (1, .int (nI w)), (2, .int (nI p)), (3, .int (orN o_)), (4, .int (nI 2)), (5, .int X5)]) rfl (by rw [hX5]) rfl ?_
        refine g_iload_n O dX9_calmest_40 2 rfl rfl ?_
        refine g_bipush (x := (nI 12)) O dX9_calmest_41 (by decide +kernel) ?_
        refine g_idivN O (by omega) (by omega) (by omega) dX9_calmest_43 ?_
        refine g_iload O dX9_calmest_44 4 rfl ?_
        refine g_if_neN (tgt := 53) O (by omega) dX9_calmest_46 (by decide) (fun c_40 => ?_) (fun c_40 => absurd c_40 (by decide))
        refine g_iload O dX9_calmest_53 4 rfl ?_
        refine g_iconst (x := (nI 3)) O dX9_calmest_55 (by decide +kernel) ?_
        refine g_icmp_neN (tgt := 63) O (by omega) (by omega) dX9_calmest_56 (by decide) (fun c_41 => ?_) (fun c_41 => absurd c_41 (by decide))
        refine g_iconst (x := (nI 0)) O dX9_calmest_63 (by decide +kernel) ?_
        refine g_iaddN O dX9_calmest_64 ?_
        refine g_istore (L' := [(0, .ref u0), (1, .int (nI w)), (2, .int (nI p)), (3, .int (orN o_)), (4, .int (nI 2)), (5, .int X5), (6, .int (nI ((p / 12) + 0)))]) O dX9_calmest_65 (by decide) [1, 2, 3, 4, 5, 6, 0] rfl ?_
        obtain ⟨Y6, hY6⟩ : ∃ x, x = (nI ((p / 12) + 0)) := ⟨_, rfl⟩
        refine g_eq (L' := [(0, .ref u0), (1, .int (nI w)), (2, .int (nI p)), (3, .int (orN o_)), (4, .int (nI 2)), (5, .int X5), (6, .int Y6)]) rfl (by rw [hY6]) rfl ?_
        refine g_bipush (x := (nI 12)) O dX9_calmest_67 (by decide +kernel) ?_
        refine g_iload O dX9_calmest_69 6 rfl ?_
        refine g_imul O dX9_calmest_71 ?_
        refine g_iload O dX9_calmest_72 5 rfl ?_
        refine g_iadd O dX9_calmest_74 ?_
        refine g_istore (L' := [(0, .ref u0), (1, .int (nI w)), (2, .int (nI p)), (3, .int (orN o_)), (4, .int (nI 2)), (5, .int X5), (6, .int Y6), (7, .int (((nI 12) * Y6) + X5))]) O dX9_calmest_75 (by decide) [1, 2, 3, 4, 5, 6, 7, 0] rfl ?_
        refine g_iload O dX9_calmest_77 5 rfl ?_
        refine g_iload O dX9_calmest_79 6 rfl ?_
        refine g_callS (As := [.int X5, .int Y6]) (wr := [(u0, .inr (9, [.ref u1, .ref u2, .ref u3, .ref u4, .ref u5, .ref u6, .int (nI kn), .ref u7, .int (bB ik), .ref u8, .int (nI ty), .ref u9, .int (nI ta), .int (bB iw), .ref u10, .ref u11])), (u4, .inl (tyI D, 6912, .inl SWT))]) O (kX9_isOn l D z X5 Y6 ) gX9_calmest_X9_isOn rfl rfl rfl 2 (by decide +kernel) (by decide) (by decide) [] [0, 1] rfl (by decide) rfl (by decide) (by decide) rfl rfl (Nat.le_of_ble_eq_true rfl) dX9_calmest_81 (fun r_42 w_43 hp => ?_)
        obtain ⟨rfl, rfl⟩ := hp
        refine g_eq (st' := [.int (bB (rgB X5 12 && rgB Y6 12))]) (ws' := [(u0, .inr (9, [.ref u1, .ref u2, .ref u3, .ref u4, .ref u5, .ref u6, .int (nI kn), .ref u7, .int (bB ik), .ref u8, .int (nI ty), .ref u9, .int (nI ta), .int (bB iw), .ref u10, .ref u11])), (u4, .inl (tyI D, 6912, .inl SWT))]) rfl rfl rfl ?_
        refine g_if_eqB (tgt := 113) O dX9_calmest_84 (by decide) (fun c_44 => ?_) (fun c_44 => ?_)
        ·
          have hnb : nbP p 2 = rchP X5 Y6 := by rw [hX5, hY6]; simp only [nbP, m1_e, nI_add, Nat.add_zero]
          have hq : cmO (SW w) p (2 + 1) = o_ := by rw [cmO_s, ← ho, hnb, rchP_n c_44]; rfl
          refine g_iconst (x := (nI 0)) O dX9_calmest_113 (by decide +kernel) ?_
          refine g_istore (L' := [(0, .ref u0), (1, .int (nI w)), (2, .int (nI p)), (3, .int (orN o_)), (4, .int (nI 2)), (5, .int X5), (6, .int Y6), (7, .int (((nI 12) * Y6) + X5)), (8, .int (nI 0))]) O dX9_calmest_114 (by decide) [1, 2, 3, 4, 5, 6, 7, 8, 0] rfl ?_
          refine g_iload O dX9_calmest_116 8 rfl ?_
          refine g_if_eqN (tgt := 126) O (by omega) dX9_calmest_118 (by decide) (fun c_45 => ?_) (fun c_45 => absurd c_45 (by decide))
          refine g_iload_n O dX9_calmest_126 3 rfl rfl ?_
          refine g_istore_n (L' := [(0, .ref u0), (1, .int (nI w)), (2, .int (nI p)), (3, .int (orN o_)), (4, .int (nI 2)), (5, .int X5), (6, .int Y6), (7, .int (((nI 12) * Y6) + X5)), (8, .int (nI 0))]) O dX9_calmest_127 rfl (by decide) [1, 2, 3, 0, 4, 5, 6, 7, 8] rfl ?_
          refine g_iincN (L' := [(0, .ref u0), (1, .int (nI w)), (2, .int (nI p)), (3, .int (orN o_)), (4, .int (nI (2 + 1))), (5, .int X5), (6, .int Y6), (7, .int (((nI 12) * Y6) + X5)), (8, .int (nI 0))]) O dX9_calmest_128 4 rfl (by decide) [1, 2, 3, 4, 0, 5, 6, 7, 8] rfl ?_
          refine g_goto (tgt := 6) O dX9_calmest_131 (by decide) ?_
          refine g_locals (L' := [(0, .ref u0), (1, .int (nI w)), (2, .int (nI p)), (3, .int (orN o_)), (4, .int (nI (2 + 1)))]) [0, 1, 2, 3, 4] rfl ?_
          exact ih_ 3 o_ (by first | assumption | omega | rfl) (hq.symm) (by rw [← hq]; exact fun f hf => cmO_lt _ f hf) (by omega)
        ·
          have hnb : nbP p 2 = rchP X5 Y6 := by rw [hX5, hY6]; simp only [nbP, m1_e, nI_add, Nat.add_zero]
          rw [Bool.and_eq_true] at c_44
          obtain ⟨⟨a_, ha, hXa⟩, ⟨d_, hd, hYd⟩⟩ := And.intro ((rgB_iff (by decide)).mp c_44.1) ((rgB_iff (by decide)).mp c_44.2)
          have hr : nbP p 2 = some (12 * d_ + a_) := by rw [hnb, hXa, hYd, rchP_s ha hd, show d_ * 12 + a_ = 12 * d_ + a_ by omega]
          refine g_eq (L' := [(0, .ref u0), (1, .int (nI w)), (2, .int (nI p)), (3, .int (orN o_)), (4, .int (nI 2)), (5, .int (nI a_)), (6, .int (nI d_)), (7, .int (nI (12 * d_ + a_)))]) rfl (by rw [hXa, hYd, pk_mul, nI_add]) rfl ?_
          cases o_ with
          | none =>
            refine g_eq (L' := [(0, .ref u0), (1, .int (nI w)), (2, .int (nI p)), (3, .int (-5)), (4, .int (nI 2)), (5, .int (nI a_)), (6, .int (nI d_)), (7, .int (nI (12 * d_ + a_)))]) rfl rfl rfl ?_
            have hq : cmO (SW w) p (2 + 1) = some (12 * d_ + a_) := by rw [cmO_s, ← ho, hr]; rfl
            refine g_iload_n O dX9_calmest_87 3 rfl rfl ?_
            refine g_bipush (x := (-5)) O dX9_calmest_88 (by decide +kernel) ?_
            refine g_icmp_eq (tgt := 109) O dX9_calmest_90 (by decide) (fun c_46 => ?_) (fun c_46 => absurd c_46 (fun h => h rfl))
            refine g_iconst (x := (nI 1)) O dX9_calmest_109 (by decide +kernel) ?_
            refine g_goto (tgt := 114) O dX9_calmest_110 (by decide) ?_
            refine g_istore (L' := [(0, .ref u0), (1, .int (nI w)), (2, .int (nI p)), (3, .int (-5)), (4, .int (nI 2)), (5, .int (nI a_)), (6, .int (nI d_)), (7, .int (nI (12 * d_ + a_))), (8, .int (nI 1))]) O dX9_calmest_114 (by decide) [1, 2, 3, 4, 5, 6, 7, 8, 0] rfl ?_
            refine g_iload O dX9_calmest_116 8 rfl ?_
            refine g_if_eqN (tgt := 126) O (by omega) dX9_calmest_118 (by decide) (fun c_47 => absurd c_47 (by decide)) (fun c_47 => ?_)
            refine g_iload O dX9_calmest_121 7 rfl ?_
            refine g_goto (tgt := 127) O dX9_calmest_123 (by decide) ?_
            refine g_istore_n (L' := [(0, .ref u0), (1, .int (nI w)), (2, .int (nI p)), (3, .int (nI (12 * d_ + a_))), (4, .int (nI 2)), (5, .int (nI a_)), (6, .int (nI d_)), (7, .int (nI (12 * d_ + a_))), (8, .int (nI 1))]) O dX9_calmest_127 rfl (by decide) [1, 2, 3, 0, 4, 5, 6, 7, 8] rfl ?_
            refine g_iincN (L' := [(0, .ref u0), (1, .int (nI w)), (2, .int (nI p)), (3, .int (nI (12 * d_ + a_))), (4, .int (nI (2 + 1))), (5, .int (nI a_)), (6, .int (nI d_)), (7, .int (nI (12 * d_ + a_))), (8, .int (nI 1))]) O dX9_calmest_128 4 rfl (by decide) [1, 2, 3, 4, 0, 5, 6, 7, 8] rfl ?_
            refine g_goto (tgt := 6) O dX9_calmest_131 (by decide) ?_
            refine g_locals (L' := [(0, .ref u0), (1, .int (nI w)), (2, .int (nI p)), (3, .int (nI (12 * d_ + a_))), (4, .int (nI (2 + 1)))]) [0, 1, 2, 3, 4] rfl ?_
            exact ih_ 3 (some (12 * d_ + a_)) (by first | assumption | omega | rfl) (hq.symm) (by rw [← hq]; exact fun f hf => cmO_lt _ f hf) (by omega)
          | some f_ =>
            have hf144 := hol f_ rfl
            refine g_eq (L' := [(0, .ref u0), (1, .int (nI w)), (2, .int (nI p)), (3, .int (nI f_)), (4, .int (nI 2)), (5, .int (nI a_)), (6, .int (nI d_)), (7, .int (nI (12 * d_ + a_)))]) rfl rfl rfl ?_
            refine g_iload_n O dX9_calmest_87 3 rfl rfl ?_
            refine g_bipush (x := (-5)) O dX9_calmest_88 (by decide +kernel) ?_
            refine g_icmp_eq (tgt := 109) O dX9_calmest_90 (by decide) (fun c_48 => (by exact absurd c_48 (fun h => by have h2 := (nI_toInt (n := f_) (by omega)).symm.trans (congrArg Int32.toInt h); have h3 : (-5 : Int32).toInt = -5 := (by decide +kernel); rw [h3] at h2; omega))) (fun c_48 => ?_)
            refine g_aload_n O dX9_calmest_93 0 rfl rfl ?_
            refine g_iload_n O dX9_calmest_94 1 rfl rfl ?_
            refine g_iload O dX9_calmest_95 7 rfl ?_
            refine g_callV (As := [.int (nI w), .int (nI (12 * d_ + a_))]) (wr := []) O (kX9_swingAt l D z u0 u1 u2 u3 u4 u5 u6 u7 u8 u9 u10 u11 kn ik ty ta iw w (12 * d_ + a_) (by first | assumption | omega) (by first | assumption | omega)) gX9_calmest_X9_swingAt rfl rfl rfl 2 (by decide +kernel) (by decide) (by decide) (q0 := 0) rfl rfl rfl [0, 1] [] rfl (by decide) rfl (by decide) (by decide) rfl rfl (Nat.le_of_ble_eq_true rfl) dX9_calmest_97 (fun r_49 w_50 hp => ?_)
            obtain ⟨rfl, rfl⟩ := hp
            refine g_eq (st' := [.int (SW w (12 * d_ + a_))]) (ws' := [(u0, .inr (9, [.ref u1, .ref u2, .ref u3, .ref u4, .ref u5, .ref u6, .int (nI kn), .ref u7, .int (bB ik), .ref u8, .int (nI ty), .ref u9, .int (nI ta), .int (bB iw), .ref u10, .ref u11])), (u4, .inl (tyI D, 6912, .inl SWT))]) rfl rfl rfl ?_
            refine g_aload_n O dX9_calmest_100 0 rfl rfl ?_
            refine g_iload_n O dX9_calmest_101 1 rfl rfl ?_
            refine g_iload_n O dX9_calmest_102 3 rfl rfl ?_
            refine g_callV (As := [.int (nI w), .int (nI f_)]) (wr := []) O (kX9_swingAt l D z u0 u1 u2 u3 u4 u5 u6 u7 u8 u9 u10 u11 kn ik ty ta iw w f_ (by first | assumption | omega) (by first | assumption | omega)) gX9_calmest_X9_swingAt rfl rfl rfl 2 (by decide +kernel) (by decide) (by decide) (q0 := 0) rfl rfl rfl [0, 1] [] rfl (by decide) rfl (by decide) (by decide) rfl rfl (Nat.le_of_ble_eq_true rfl) dX9_calmest_103 (fun r_51 w_52 hp => ?_)
            obtain ⟨rfl, rfl⟩ := hp
            refine g_eq (st' := [.int (SW w f_), .int (SW w (12 * d_ + a_))]) (ws' := [(u0, .inr (9, [.ref u1, .ref u2, .ref u3, .ref u4, .ref u5, .ref u6, .int (nI kn), .ref u7, .int (bB ik), .ref u8, .int (nI ty), .ref u9, .int (nI ta), .int (bB iw), .ref u10, .ref u11])), (u4, .inl (tyI D, 6912, .inl SWT))]) rfl rfl rfl ?_
            refine g_icmp_ge (tgt := 113) O dX9_calmest_106 (by decide) (fun c_53 => ?_) (fun c_53 => ?_)
            ·
              have hq : cmO (SW w) p (2 + 1) = some f_ := by rw [cmO_s, ← ho, hr]; simp only [cmS]; rw [if_neg (Int32.not_lt.mpr c_53)]
              refine g_iconst (x := (nI 0)) O dX9_calmest_113 (by decide +kernel) ?_
              refine g_istore (L' := [(0, .ref u0), (1, .int (nI w)), (2, .int (nI p)), (3, .int (nI f_)), (4, .int (nI 2)), (5, .int (nI a_)), (6, .int (nI d_)), (7, .int (nI (12 * d_ + a_))), (8, .int (nI 0))]) O dX9_calmest_114 (by decide) [1, 2, 3, 4, 5, 6, 7, 8, 0] rfl ?_
              refine g_iload O dX9_calmest_116 8 rfl ?_
              refine g_if_eqN (tgt := 126) O (by omega) dX9_calmest_118 (by decide) (fun c_54 => ?_) (fun c_54 => absurd c_54 (by decide))
              refine g_iload_n O dX9_calmest_126 3 rfl rfl ?_
              refine g_istore_n (L' := [(0, .ref u0), (1, .int (nI w)), (2, .int (nI p)), (3, .int (nI f_)), (4, .int (nI 2)), (5, .int (nI a_)), (6, .int (nI d_)), (7, .int (nI (12 * d_ + a_))), (8, .int (nI 0))]) O dX9_calmest_127 rfl (by decide) [1, 2, 3, 0, 4, 5, 6, 7, 8] rfl ?_
              refine g_iincN (L' := [(0, .ref u0), (1, .int (nI w)), (2, .int (nI p)), (3, .int (nI f_)), (4, .int (nI (2 + 1))), (5, .int (nI a_)), (6, .int (nI d_)), (7, .int (nI (12 * d_ + a_))), (8, .int (nI 0))]) O dX9_calmest_128 4 rfl (by decide) [1, 2, 3, 4, 0, 5, 6, 7, 8] rfl ?_
              refine g_goto (tgt := 6) O dX9_calmest_131 (by decide) ?_
              refine g_locals (L' := [(0, .ref u0), (1, .int (nI w)), (2, .int (nI p)), (3, .int (nI f_)), (4, .int (nI (2 + 1)))]) [0, 1, 2, 3, 4] rfl ?_
              exact ih_ 3 (some (f_)) (by first | assumption | omega | rfl) (hq.symm) (by rw [← hq]; exact fun f hf => cmO_lt _ f hf) (by omega)
            ·
              have hq : cmO (SW w) p (2 + 1) = some (12 * d_ + a_) := by rw [cmO_s, ← ho, hr]; simp only [cmS]; rw [if_pos (Int32.not_le.mp c_53)]
              refine g_iconst (x := (nI 1)) O dX9_calmest_109 (by decide +kernel) ?_
              refine g_goto (tgt := 114) O dX9_calmest_110 (by decide) ?_
              refine g_istore (L' := [(0, .ref u0), (1, .int (nI w)), (2, .int (nI p)), (3, .int (nI f_)), (4, .int (nI 2)), (5, .int (nI a_)), (6, .int (nI d_)), (7, .int (nI (12 * d_ + a_))), (8, .int (nI 1))]) O dX9_calmest_114 (by decide) [1, 2, 3, 4, 5, 6, 7, 8, 0] rfl ?_
              refine g_iload O dX9_calmest_116 8 rfl ?_
              refine g_if_eqN (tgt := 126) O (by omega) dX9_calmest_118 (by decide) (fun c_55 => absurd c_55 (by decide)) (fun c_55 => ?_)
              refine g_iload O dX9_calmest_121 7 rfl ?_
              refine g_goto (tgt := 127) O dX9_calmest_123 (by decide) ?_
              refine g_istore_n (L' := [(0, .ref u0), (1, .int (nI w)), (2, .int (nI p)), (3, .int (nI (12 * d_ + a_))), (4, .int (nI 2)), (5, .int (nI a_)), (6, .int (nI d_)), (7, .int (nI (12 * d_ + a_))), (8, .int (nI 1))]) O dX9_calmest_127 rfl (by decide) [1, 2, 3, 0, 4, 5, 6, 7, 8] rfl ?_
              refine g_iincN (L' := [(0, .ref u0), (1, .int (nI w)), (2, .int (nI p)), (3, .int (nI (12 * d_ + a_))), (4, .int (nI (2 + 1))), (5, .int (nI a_)), (6, .int (nI d_)), (7, .int (nI (12 * d_ + a_))), (8, .int (nI 1))]) O dX9_calmest_128 4 rfl (by decide) [1, 2, 3, 4, 0, 5, 6, 7, 8] rfl ?_
              refine g_goto (tgt := 6) O dX9_calmest_131 (by decide) ?_
              refine g_locals (L' := [(0, .ref u0), (1, .int (nI w)), (2, .int (nI p)), (3, .int (nI (12 * d_ + a_))), (4, .int (nI (2 + 1)))]) [0, 1, 2, 3, 4] rfl ?_
              exact ih_ 3 (some (12 * d_ + a_)) (by first | assumption | omega | rfl) (hq.symm) (by rw [← hq]; exact fun f hf => cmO_lt _ f hf) (by omega)
      ·
        refine g_iload O dX9_calmest_6 4 rfl ?_
        refine g_iconst (x := (nI 4)) O dX9_calmest_8 (by decide +kernel) ?_
        refine g_icmp_geN (tgt := 134) O (by omega) (by omega) dX9_calmest_9 (by decide) (fun c_56 => absurd c_56 (by decide)) (fun c_56 => ?_)
        refine g_iload_n O dX9_calmest_12 2 rfl rfl ?_
        refine g_bipush (x := (nI 12)) O dX9_calmest_13 (by decide +kernel) ?_
        refine g_iremN O (by omega) (by omega) (by omega) dX9_calmest_15 ?_
        refine g_iload O dX9_calmest_16 4 rfl ?_
        refine g_iconst (x := (nI 1)) O dX9_calmest_18 (by decide +kernel) ?_
        refine g_icmp_neN (tgt := 26) O (by omega) (by omega) dX9_calmest_19 (by decide) (fun c_57 => ?_) (fun c_57 => absurd c_57 (by decide))
        refine g_iload O dX9_calmest_26 4 rfl ?_
        refine g_iconst (x := (nI 2)) O dX9_calmest_28 (by decide +kernel) ?_
        refine g_icmp_neN (tgt := 36) O (by omega) (by omega) dX9_calmest_29 (by decide) (fun c_58 => ?_) (fun c_58 => absurd c_58 (by decide))
        refine g_iconst (x := (nI 0)) O dX9_calmest_36 (by decide +kernel) ?_
        refine g_iaddN O dX9_calmest_37 ?_
        refine g_istore (L' := [(0, .ref u0), (1, .int (nI w)), (2, .int (nI p)), (3, .int (orN o_)), (4, .int (nI 3)), (5, .int (nI ((p % 12) + 0)))]) O dX9_calmest_38 (by decide) [1, 2, 3, 4, 5, 0] rfl ?_
        obtain ⟨X5, hX5⟩ : ∃ x, x = (nI ((p % 12) + 0)) := ⟨_, rfl⟩
        refine g_eq (L' := [(0, .ref u0), (1, .int (nI w)), (2, .int (nI p)), (3, .int (orN o_)), (4, .int (nI 3)), (5, .int X5)]) rfl (by rw [hX5]) rfl ?_
        refine g_iload_n O dX9_calmest_40 2 rfl rfl ?_
        refine g_bipush (x := (nI 12)) O dX9_calmest_41 (by decide +kernel) ?_
        refine g_idivN O (by omega) (by omega) (by omega) dX9_calmest_43 ?_
        refine g_iload O dX9_calmest_44 4 rfl ?_
        refine g_if_neN (tgt := 53) O (by omega) dX9_calmest_46 (by decide) (fun c_59 => ?_) (fun c_59 => absurd c_59 (by decide))
        refine g_iload O dX9_calmest_53 4 rfl ?_
        refine g_iconst (x := (nI 3)) O dX9_calmest_55 (by decide +kernel) ?_
        refine g_icmp_neN (tgt := 63) O (by omega) (by omega) dX9_calmest_56 (by decide) (fun c_60 => absurd c_60 (by decide)) (fun c_60 => ?_)
        refine g_iconst (x := (nI 1)) O dX9_calmest_59 (by decide +kernel) ?_
        refine g_goto (tgt := 64) O dX9_calmest_60 (by decide) ?_
        refine g_iaddN O dX9_calmest_64 ?_
        refine g_istore (L' := [(0, .ref u0), (1, .int (nI w)), (2, .int (nI p)), (3, .int (orN o_)), (4, .int (nI 3)), (5, .int X5), (6, .int (nI ((p / 12) + 1)))]) O dX9_calmest_65 (by decide) [1, 2, 3, 4, 5, 6, 0] rfl ?_
        obtain ⟨Y6, hY6⟩ : ∃ x, x = (nI ((p / 12) + 1)) := ⟨_, rfl⟩
        refine g_eq (L' := [(0, .ref u0), (1, .int (nI w)), (2, .int (nI p)), (3, .int (orN o_)), (4, .int (nI 3)), (5, .int X5), (6, .int Y6)]) rfl (by rw [hY6]) rfl ?_
        refine g_bipush (x := (nI 12)) O dX9_calmest_67 (by decide +kernel) ?_
        refine g_iload O dX9_calmest_69 6 rfl ?_
        refine g_imul O dX9_calmest_71 ?_
        refine g_iload O dX9_calmest_72 5 rfl ?_
        refine g_iadd O dX9_calmest_74 ?_
        refine g_istore (L' := [(0, .ref u0), (1, .int (nI w)), (2, .int (nI p)), (3, .int (orN o_)), (4, .int (nI 3)), (5, .int X5), (6, .int Y6), (7, .int (((nI 12) * Y6) + X5))]) O dX9_calmest_75 (by decide) [1, 2, 3, 4, 5, 6, 7, 0] rfl ?_
        refine g_iload O dX9_calmest_77 5 rfl ?_
        refine g_iload O dX9_calmest_79 6 rfl ?_
        refine g_callS (As := [.int X5, .int Y6]) (wr := [(u0, .inr (9, [.ref u1, .ref u2, .ref u3, .ref u4, .ref u5, .ref u6, .int (nI kn), .ref u7, .int (bB ik), .ref u8, .int (nI ty), .ref u9, .int (nI ta), .int (bB iw), .ref u10, .ref u11])), (u4, .inl (tyI D, 6912, .inl SWT))]) O (kX9_isOn l D z X5 Y6 ) gX9_calmest_X9_isOn rfl rfl rfl 2 (by decide +kernel) (by decide) (by decide) [] [0, 1] rfl (by decide) rfl (by decide) (by decide) rfl rfl (Nat.le_of_ble_eq_true rfl) dX9_calmest_81 (fun r_61 w_62 hp => ?_)
        obtain ⟨rfl, rfl⟩ := hp
        refine g_eq (st' := [.int (bB (rgB X5 12 && rgB Y6 12))]) (ws' := [(u0, .inr (9, [.ref u1, .ref u2, .ref u3, .ref u4, .ref u5, .ref u6, .int (nI kn), .ref u7, .int (bB ik), .ref u8, .int (nI ty), .ref u9, .int (nI ta), .int (bB iw), .ref u10, .ref u11])), (u4, .inl (tyI D, 6912, .inl SWT))]) rfl rfl rfl ?_
        refine g_if_eqB (tgt := 113) O dX9_calmest_84 (by decide) (fun c_63 => ?_) (fun c_63 => ?_)
        ·
          have hnb : nbP p 3 = rchP X5 Y6 := by rw [hX5, hY6]; simp only [nbP, m1_e, nI_add, Nat.add_zero]
          have hq : cmO (SW w) p (3 + 1) = o_ := by rw [cmO_s, ← ho, hnb, rchP_n c_63]; rfl
          refine g_iconst (x := (nI 0)) O dX9_calmest_113 (by decide +kernel) ?_
          refine g_istore (L' := [(0, .ref u0), (1, .int (nI w)), (2, .int (nI p)), (3, .int (orN o_)), (4, .int (nI 3)), (5, .int X5), (6, .int Y6), (7, .int (((nI 12) * Y6) + X5)), (8, .int (nI 0))]) O dX9_calmest_114 (by decide) [1, 2, 3, 4, 5, 6, 7, 8, 0] rfl ?_
          refine g_iload O dX9_calmest_116 8 rfl ?_
          refine g_if_eqN (tgt := 126) O (by omega) dX9_calmest_118 (by decide) (fun c_64 => ?_) (fun c_64 => absurd c_64 (by decide))
          refine g_iload_n O dX9_calmest_126 3 rfl rfl ?_
          refine g_istore_n (L' := [(0, .ref u0), (1, .int (nI w)), (2, .int (nI p)), (3, .int (orN o_)), (4, .int (nI 3)), (5, .int X5), (6, .int Y6), (7, .int (((nI 12) * Y6) + X5)), (8, .int (nI 0))]) O dX9_calmest_127 rfl (by decide) [1, 2, 3, 0, 4, 5, 6, 7, 8] rfl ?_
          refine g_iincN (L' := [(0, .ref u0), (1, .int (nI w)), (2, .int (nI p)), (3, .int (orN o_)), (4, .int (nI (3 + 1))), (5, .int X5), (6, .int Y6), (7, .int (((nI 12) * Y6) + X5)), (8, .int (nI 0))]) O dX9_calmest_128 4 rfl (by decide) [1, 2, 3, 4, 0, 5, 6, 7, 8] rfl ?_
          refine g_goto (tgt := 6) O dX9_calmest_131 (by decide) ?_
          refine g_locals (L' := [(0, .ref u0), (1, .int (nI w)), (2, .int (nI p)), (3, .int (orN o_)), (4, .int (nI (3 + 1)))]) [0, 1, 2, 3, 4] rfl ?_
          exact ih_ 4 o_ (by first | assumption | omega | rfl) (hq.symm) (by rw [← hq]; exact fun f hf => cmO_lt _ f hf) (by omega)
        ·
          have hnb : nbP p 3 = rchP X5 Y6 := by rw [hX5, hY6]; simp only [nbP, m1_e, nI_add, Nat.add_zero]
          rw [Bool.and_eq_true] at c_63
          obtain ⟨⟨a_, ha, hXa⟩, ⟨d_, hd, hYd⟩⟩ := And.intro ((rgB_iff (by decide)).mp c_63.1) ((rgB_iff (by decide)).mp c_63.2)
          have hr : nbP p 3 = some (12 * d_ + a_) := by rw [hnb, hXa, hYd, rchP_s ha hd, show d_ * 12 + a_ = 12 * d_ + a_ by omega]
          refine g_eq (L' := [(0, .ref u0), (1, .int (nI w)), (2, .int (nI p)), (3, .int (orN o_)), (4, .int (nI 3)), (5, .int (nI a_)), (6, .int (nI d_)), (7, .int (nI (12 * d_ + a_)))]) rfl (by rw [hXa, hYd, pk_mul, nI_add]) rfl ?_
          cases o_ with
          | none =>
            refine g_eq (L' := [(0, .ref u0), (1, .int (nI w)), (2, .int (nI p)), (3, .int (-5)), (4, .int (nI 3)), (5, .int (nI a_)), (6, .int (nI d_)), (7, .int (nI (12 * d_ + a_)))]) rfl rfl rfl ?_
            have hq : cmO (SW w) p (3 + 1) = some (12 * d_ + a_) := by rw [cmO_s, ← ho, hr]; rfl
            refine g_iload_n O dX9_calmest_87 3 rfl rfl ?_
            refine g_bipush (x := (-5)) O dX9_calmest_88 (by decide +kernel) ?_
            refine g_icmp_eq (tgt := 109) O dX9_calmest_90 (by decide) (fun c_65 => ?_) (fun c_65 => absurd c_65 (fun h => h rfl))
            refine g_iconst (x := (nI 1)) O dX9_calmest_109 (by decide +kernel) ?_
            refine g_goto (tgt := 114) O dX9_calmest_110 (by decide) ?_
            refine g_istore (L' := [(0, .ref u0), (1, .int (nI w)), (2, .int (nI p)), (3, .int (-5)), (4, .int (nI 3)), (5, .int (nI a_)), (6, .int (nI d_)), (7, .int (nI (12 * d_ + a_))), (8, .int (nI 1))]) O dX9_calmest_114 (by decide) [1, 2, 3, 4, 5, 6, 7, 8, 0] rfl ?_
            refine g_iload O dX9_calmest_116 8 rfl ?_
            refine g_if_eqN (tgt := 126) O (by omega) dX9_calmest_118 (by decide) (fun c_66 => absurd c_66 (by decide)) (fun c_66 => ?_)
            refine g_iload O dX9_calmest_121 7 rfl ?_
            refine g_goto (tgt := 127) O dX9_calmest_123 (by decide) ?_
            refine g_istore_n (L' := [(0, .ref u0), (1, .int (nI w)), (2, .int (nI p)), (3, .int (nI (12 * d_ + a_))), (4, .int (nI 3)), (5, .int (nI a_)), (6, .int (nI d_)), (7, .int (nI (12 * d_ + a_))), (8, .int (nI 1))]) O dX9_calmest_127 rfl (by decide) [1, 2, 3, 0, 4, 5, 6, 7, 8] rfl ?_
            refine g_iincN (L' := [(0, .ref u0), (1, .int (nI w)), (2, .int (nI p)), (3, .int (nI (12 * d_ + a_))), (4, .int (nI (3 + 1))), (5, .int (nI a_)), (6, .int (nI d_)), (7, .int (nI (12 * d_ + a_))), (8, .int (nI 1))]) O dX9_calmest_128 4 rfl (by decide) [1, 2, 3, 4, 0, 5, 6, 7, 8] rfl ?_
            refine g_goto (tgt := 6) O dX9_calmest_131 (by decide) ?_
            refine g_locals (L' := [(0, .ref u0), (1, .int (nI w)), (2, .int (nI p)), (3, .int (nI (12 * d_ + a_))), (4, .int (nI (3 + 1)))]) [0, 1, 2, 3, 4] rfl ?_
            exact ih_ 4 (some (12 * d_ + a_)) (by first | assumption | omega | rfl) (hq.symm) (by rw [← hq]; exact fun f hf => cmO_lt _ f hf) (by omega)
          | some f_ =>
            have hf144 := hol f_ rfl
            refine g_eq (L' := [(0, .ref u0), (1, .int (nI w)), (2, .int (nI p)), (3, .int (nI f_)), (4, .int (nI 3)), (5, .int (nI a_)), (6, .int (nI d_)), (7, .int (nI (12 * d_ + a_)))]) rfl rfl rfl ?_
            refine g_iload_n O dX9_calmest_87 3 rfl rfl ?_
            refine g_bipush (x := (-5)) O dX9_calmest_88 (by decide +kernel) ?_
            refine g_icmp_eq (tgt := 109) O dX9_calmest_90 (by decide) (fun c_67 => (by exact absurd c_67 (fun h => by have h2 := (nI_toInt (n := f_) (by omega)).symm.trans (congrArg Int32.toInt h); have h3 : (-5 : Int32).toInt = -5 := (by decide +kernel); rw [h3] at h2; omega))) (fun c_67 => ?_)
            refine g_aload_n O dX9_calmest_93 0 rfl rfl ?_
            refine g_iload_n O dX9_calmest_94 1 rfl rfl ?_
            refine g_iload O dX9_calmest_95 7 rfl ?_
            refine g_callV (As := [.int (nI w), .int (nI (12 * d_ + a_))]) (wr := []) O (kX9_swingAt l D z u0 u1 u2 u3 u4 u5 u6 u7 u8 u9 u10 u11 kn ik ty ta iw w (12 * d_ + a_) (by first | assumption | omega) (by first | assumption | omega)) gX9_calmest_X9_swingAt rfl rfl rfl 2 (by decide +kernel) (by decide) (by decide) (q0 := 0) rfl rfl rfl [0, 1] [] rfl (by decide) rfl (by decide) (by decide) rfl rfl (Nat.le_of_ble_eq_true rfl) dX9_calmest_97 (fun r_68 w_69 hp => ?_)
            obtain ⟨rfl, rfl⟩ := hp
            refine g_eq (st' := [.int (SW w (12 * d_ + a_))]) (ws' := [(u0, .inr (9, [.ref u1, .ref u2, .ref u3, .ref u4, .ref u5, .ref u6, .int (nI kn), .ref u7, .int (bB ik), .ref u8, .int (nI ty), .ref u9, .int (nI ta), .int (bB iw), .ref u10, .ref u11])), (u4, .inl (tyI D, 6912, .inl SWT))]) rfl rfl rfl ?_
            refine g_aload_n O dX9_calmest_100 0 rfl rfl ?_
            refine g_iload_n O dX9_calmest_101 1 rfl rfl ?_
            refine g_iload_n O dX9_calmest_102 3 rfl rfl ?_
            refine g_callV (As := [.int (nI w), .int (nI f_)]) (wr := []) O (kX9_swingAt l D z u0 u1 u2 u3 u4 u5 u6 u7 u8 u9 u10 u11 kn ik ty ta iw w f_ (by first | assumption | omega) (by first | assumption | omega)) gX9_calmest_X9_swingAt rfl rfl rfl 2 (by decide +kernel) (by decide) (by decide) (q0 := 0) rfl rfl rfl [0, 1] [] rfl (by decide) rfl (by decide) (by decide) rfl rfl (Nat.le_of_ble_eq_true rfl) dX9_calmest_103 (fun r_70 w_71 hp => ?_)
            obtain ⟨rfl, rfl⟩ := hp
            refine g_eq (st' := [.int (SW w f_), .int (SW w (12 * d_ + a_))]) (ws' := [(u0, .inr (9, [.ref u1, .ref u2, .ref u3, .ref u4, .ref u5, .ref u6, .int (nI kn), .ref u7, .int (bB ik), .ref u8, .int (nI ty), .ref u9, .int (nI ta), .int (bB iw), .ref u10, .ref u11])), (u4, .inl (tyI D, 6912, .inl SWT))]) rfl rfl rfl ?_
            refine g_icmp_ge (tgt := 113) O dX9_calmest_106 (by decide) (fun c_72 => ?_) (fun c_72 => ?_)
            ·
              have hq : cmO (SW w) p (3 + 1) = some f_ := by rw [cmO_s, ← ho, hr]; simp only [cmS]; rw [if_neg (Int32.not_lt.mpr c_72)]
              refine g_iconst (x := (nI 0)) O dX9_calmest_113 (by decide +kernel) ?_
              refine g_istore (L' := [(0, .ref u0), (1, .int (nI w)), (2, .int (nI p)), (3, .int (nI f_)), (4, .int (nI 3)), (5, .int (nI a_)), (6, .int (nI d_)), (7, .int (nI (12 * d_ + a_))), (8, .int (nI 0))]) O dX9_calmest_114 (by decide) [1, 2, 3, 4, 5, 6, 7, 8, 0] rfl ?_
              refine g_iload O dX9_calmest_116 8 rfl ?_
              refine g_if_eqN (tgt := 126) O (by omega) dX9_calmest_118 (by decide) (fun c_73 => ?_) (fun c_73 => absurd c_73 (by decide))
              refine g_iload_n O dX9_calmest_126 3 rfl rfl ?_
              refine g_istore_n (L' := [(0, .ref u0), (1, .int (nI w)), (2, .int (nI p)), (3, .int (nI f_)), (4, .int (nI 3)), (5, .int (nI a_)), (6, .int (nI d_)), (7, .int (nI (12 * d_ + a_))), (8, .int (nI 0))]) O dX9_calmest_127 rfl (by decide) [1, 2, 3, 0, 4, 5, 6, 7, 8] rfl ?_
              refine g_iincN (L' := [(0, .ref u0), (1, .int (nI w)), (2, .int (nI p)), (3, .int (nI f_)), (4, .int (nI (3 + 1))), (5, .int (nI a_)), (6, .int (nI d_)), (7, .int (nI (12 * d_ + a_))), (8, .int (nI 0))]) O dX9_calmest_128 4 rfl (by decide) [1, 2, 3, 4, 0, 5, 6, 7, 8] rfl ?_
              refine g_goto (tgt := 6) O dX9_calmest_131 (by decide) ?_
              refine g_locals (L' := [(0, .ref u0), (1, .int (nI w)), (2, .int (nI p)), (3, .int (nI f_)), (4, .int (nI (3 + 1)))]) [0, 1, 2, 3, 4] rfl ?_
              exact ih_ 4 (some (f_)) (by first | assumption | omega | rfl) (hq.symm) (by rw [← hq]; exact fun f hf => cmO_lt _ f hf) (by omega)
            ·
              have hq : cmO (SW w) p (3 + 1) = some (12 * d_ + a_) := by rw [cmO_s, ← ho, hr]; simp only [cmS]; rw [if_pos (Int32.not_le.mp c_72)]
              refine g_iconst (x := (nI 1)) O dX9_calmest_109 (by decide +kernel) ?_
              refine g_goto (tgt := 114) O dX9_calmest_110 (by decide) ?_
              refine g_istore (L' := [(0, .ref u0), (1, .int (nI w)), (2, .int (nI p)), (3, .int (nI f_)), (4, .int (nI 3)), (5, .int (nI a_)), (6, .int (nI d_)), (7, .int (nI (12 * d_ + a_))), (8, .int (nI 1))]) O dX9_calmest_114 (by decide) [1, 2, 3, 4, 5, 6, 7, 8, 0] rfl ?_
              refine g_iload O dX9_calmest_116 8 rfl ?_
              refine g_if_eqN (tgt := 126) O (by omega) dX9_calmest_118 (by decide) (fun c_74 => absurd c_74 (by decide)) (fun c_74 => ?_)
              refine g_iload O dX9_calmest_121 7 rfl ?_
              refine g_goto (tgt := 127) O dX9_calmest_123 (by decide) ?_
              refine g_istore_n (L' := [(0, .ref u0), (1, .int (nI w)), (2, .int (nI p)), (3, .int (nI (12 * d_ + a_))), (4, .int (nI 3)), (5, .int (nI a_)), (6, .int (nI d_)), (7, .int (nI (12 * d_ + a_))), (8, .int (nI 1))]) O dX9_calmest_127 rfl (by decide) [1, 2, 3, 0, 4, 5, 6, 7, 8] rfl ?_
              refine g_iincN (L' := [(0, .ref u0), (1, .int (nI w)), (2, .int (nI p)), (3, .int (nI (12 * d_ + a_))), (4, .int (nI (3 + 1))), (5, .int (nI a_)), (6, .int (nI d_)), (7, .int (nI (12 * d_ + a_))), (8, .int (nI 1))]) O dX9_calmest_128 4 rfl (by decide) [1, 2, 3, 4, 0, 5, 6, 7, 8] rfl ?_
              refine g_goto (tgt := 6) O dX9_calmest_131 (by decide) ?_
              refine g_locals (L' := [(0, .ref u0), (1, .int (nI w)), (2, .int (nI p)), (3, .int (nI (12 * d_ + a_))), (4, .int (nI (3 + 1)))]) [0, 1, 2, 3, 4] rfl ?_
              exact ih_ 4 (some (12 * d_ + a_)) (by first | assumption | omega | rfl) (hq.symm) (by rw [← hq]; exact fun f hf => cmO_lt _ f hf) (by omega)
      ·
        refine g_iload O dX9_calmest_6 4 rfl ?_
        refine g_iconst (x := (nI 4)) O dX9_calmest_8 (by decide +kernel) ?_
        refine g_icmp_geN (tgt := 134) O (by omega) (by omega) dX9_calmest_9 (by decide) (fun c_75 => ?_) (fun c_75 => absurd c_75 (by decide))
        obtain ⟨f9, hf9⟩ := cmO_some (sw := SW w) hp
        have hof : o_ = some f9 := by rw [ho, hf9]
        refine g_eq (L' := [(0, .ref u0), (1, .int (nI w)), (2, .int (nI p)), (3, .int (nI f9)), (4, .int (nI 4))]) rfl (by rw [hof]; rfl) rfl ?_
        refine g_iload_n O dX9_calmest_134 3 rfl rfl ?_
        exact E 135 _ (nI f9) _ dX9_calmest_135 (by rw [show cmN w p = f9 from by show (cmO (SW w) p 4).getD 0 = f9; rw [hf9]; rfl]; exact ⟨rfl, rfl⟩)
  exact J6 _ 0 none (Nat.zero_le _) (rfl) (fun f h => by cases h) (Nat.lt_succ_self _)
