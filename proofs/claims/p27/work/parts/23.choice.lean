theorem hiX0_clampsAllow_X0 : ∀ w ∈ wsX00, w ∈ wsX0_clampsAllow := by decide +kernel
theorem hiX0_clampsAllow_X5 : ∀ w ∈ wsX50, w ∈ wsX0_clampsAllow := by decide +kernel
set_option maxHeartbeats 2000000 in
set_option maxRecDepth 100000 in
/-- whether the clamps let a way be -/
theorem kX0_clampsAllow (l : Launch) (D : va_G) (z : Nat × Nat × Nat) (c0 : Nat) (c1 : Nat) (c2 : Nat) (pn : Nat) (w0 : Nat) (w1 : Nat) (w2 : Nat) (w3 : Nat) (w4 : Nat) (h0 : Nat) (h1 : Nat) (h2 : Nat) (h3 : Nat) (h4 : Nat) (h5 : Nat) (s : SV) (w : Nat) (hnc : sv_nc s ≤ 4) (hcc : ∀ j, j < sv_nc s → sv_cc s j < 12 ∧ sv_cr s j < 12) (hw : w < 48) : CM l yX0_clampsAllow wsX0_clampsAllow ({ frames := 2, cells := 0, slots := 0, locals := 48 } : Room) D z [.ref c0, .int (nI w)] [(c0, .inr (0, [.ref w0, .ref h0, .ref c1, .int (nI pn), .ref c2])), (w0, .inr (7, [.ref w1, .ref w2, .ref w3, .ref w4, .int (nI 48)])), (w1, .inl (tyI D, 48, .inl (nf tM))), (w2, .inl (tyI D, 48, .inl (nf tN))), (w3, .inl (tyI D, 48, .inl (nf tS))), (w4, .inl (tyI D, 84, .inl hT)), (h0, .inr (5, [.ref h1, .ref h2, .ref h3, .int (nI (sv_nc s)), .ref h4, .ref h5, .int (sv_la s), .int (sv_st s), .int (sv_sw s), .int (sv_fl s), .int (sv_sk s), .int (sv_mu s)])), (h2, .inl (tyI D, 4, .inl (nf (sv_cc s)))), (h3, .inl (tyI D, 4, .inl (nf (sv_cr s)))), (h4, .inl (tyI D, 4, .inl (sv_se s)))] (fun r_ w_ => r_ = some (.int (bB (clB s w))) ∧ w_ = [(c0, .inr (0, [.ref w0, .ref h0, .ref c1, .int (nI pn), .ref c2])), (w0, .inr (7, [.ref w1, .ref w2, .ref w3, .ref w4, .int (nI 48)])), (w1, .inl (tyI D, 48, .inl (nf tM))), (w2, .inl (tyI D, 48, .inl (nf tN))), (w3, .inl (tyI D, 48, .inl (nf tS))), (w4, .inl (tyI D, 84, .inl hT)), (h0, .inr (5, [.ref h1, .ref h2, .ref h3, .int (nI (sv_nc s)), .ref h4, .ref h5, .int (sv_la s), .int (sv_st s), .int (sv_sw s), .int (sv_fl s), .int (sv_sk s), .int (sv_mu s)])), (h2, .inl (tyI D, 4, .inl (nf (sv_cc s)))), (h3, .inl (tyI D, 4, .inl (nf (sv_cr s)))), (h4, .inl (tyI D, 4, .inl (sv_se s)))]) 0 0 := by
  refine CM_bool (own := RX0) (cc := cX0_clampsAllow) (maxL := 4) (L0 := [(0, .ref c0), (1, .int (nI w))]) (by decide) rfl rfl (Nat.le_of_ble_eq_true rfl) rfl (fun X O E => ?_)
  refine g_iconst (x := (nI 0)) O dX0_clampsAllow_0 (by decide +kernel) ?_
  refine g_istore_n (L' := [(0, .ref c0), (1, .int (nI w)), (2, .int (nI 0))]) O dX0_clampsAllow_1 rfl (by decide) [1, 2, 0] rfl ?_
  have J2 : ∀ (n_ : Nat), ∀ (i_ : Nat) (hi_ : i_ ≤ sv_nc s) (hno : ∀ j, j < i_ → (!decide (SW w (12 * sv_cr s j + sv_cc s j) ≤ sv_se s 0)) = false), sv_nc s - i_ < n_ → G X 0 0 2 [(0, .ref c0), (1, .int (nI w)), (2, .int (nI i_))] [] [(c0, .inr (0, [.ref w0, .ref h0, .ref c1, .int (nI pn), .ref c2])), (w0, .inr (7, [.ref w1, .ref w2, .ref w3, .ref w4, .int (nI 48)])), (w1, .inl (tyI D, 48, .inl (nf tM))), (w2, .inl (tyI D, 48, .inl (nf tN))), (w3, .inl (tyI D, 48, .inl (nf tS))), (w4, .inl (tyI D, 84, .inl hT)), (h0, .inr (5, [.ref h1, .ref h2, .ref h3, .int (nI (sv_nc s)), .ref h4, .ref h5, .int (sv_la s), .int (sv_st s), .int (sv_sw s), .int (sv_fl s), .int (sv_sk s), .int (sv_mu s)])), (h2, .inl (tyI D, 4, .inl (nf (sv_cc s)))), (h3, .inl (tyI D, 4, .inl (nf (sv_cr s)))), (h4, .inl (tyI D, 4, .inl (sv_se s)))] := by
    intro n_
    induction n_ with
    | zero => intro i_ hi_ hno hm_; exact absurd hm_ (Nat.not_lt_zero _)
    | succ n_ ih_ =>
      intro i_ hi_ hno hm_
      refine g_iload_n O dX0_clampsAllow_2 2 rfl rfl ?_
      refine g_aload_n O dX0_clampsAllow_3 0 rfl rfl ?_
      refine g_get O hiX0_clampsAllow_X0 0 rfl rfl 1 (by decide) (by decide +kernel) rfl dX0_clampsAllow_4 ?_
      refine g_getN O hiX0_clampsAllow_X5 6 rfl rfl 3 (by decide) 16 rfl rfl dX0_clampsAllow_7 ?_
      refine g_icmp_geN (tgt := 61) O (by omega) (by omega) dX0_clampsAllow_10 (by decide) (fun c_1 => ?_) (fun c_1 => ?_)
      ·
        have hin : i_ = sv_nc s := by omega
        refine g_iconst (x := (nI 1)) O dX0_clampsAllow_61 (by decide +kernel) ?_
        refine g_eq (st' := [.int (bB true)]) rfl rfl rfl ?_
        exact E 62 _ true _ dX0_clampsAllow_62 (by rw [clB_t (fun j hj => hno j (by omega))]; exact ⟨rfl, rfl⟩)
      ·
        have hci := hcc i_ c_1
        refine g_aload_n O dX0_clampsAllow_13 0 rfl rfl ?_
        refine g_get O hiX0_clampsAllow_X0 0 rfl rfl 0 (by decide) (by decide +kernel) rfl dX0_clampsAllow_14 ?_
        refine g_iload_n O dX0_clampsAllow_17 1 rfl rfl ?_
        refine g_aload_n O dX0_clampsAllow_18 0 rfl rfl ?_
        refine g_get O hiX0_clampsAllow_X0 0 rfl rfl 1 (by decide) (by decide +kernel) rfl dX0_clampsAllow_19 ?_
        refine g_getN O hiX0_clampsAllow_X5 6 rfl rfl 1 (by decide) 12 rfl rfl dX0_clampsAllow_22 ?_
        refine g_iload_n O dX0_clampsAllow_25 2 rfl rfl ?_
        refine g_ialdN O 7 rfl (by omega) (by omega) dX0_clampsAllow_26 ?_
        refine g_aload_n O dX0_clampsAllow_27 0 rfl rfl ?_
        refine g_get O hiX0_clampsAllow_X0 0 rfl rfl 1 (by decide) (by decide +kernel) rfl dX0_clampsAllow_28 ?_
        refine g_getN O hiX0_clampsAllow_X5 6 rfl rfl 2 (by decide) 14 rfl rfl dX0_clampsAllow_31 ?_
        refine g_iload_n O dX0_clampsAllow_34 2 rfl rfl ?_
        refine g_ialdN O 8 rfl (by omega) (by omega) dX0_clampsAllow_35 ?_
        refine g_callV (As := [.int (nI w), .int (nI ((sv_cc s) i_)), .int (nI ((sv_cr s) i_))]) (wr := [(c0, .inr (0, [.ref w0, .ref h0, .ref c1, .int (nI pn), .ref c2])), (h0, .inr (5, [.ref h1, .ref h2, .ref h3, .int (nI (sv_nc s)), .ref h4, .ref h5, .int (sv_la s), .int (sv_st s), .int (sv_sw s), .int (sv_fl s), .int (sv_sk s), .int (sv_mu s)])), (h2, .inl (tyI D, 4, .inl (nf (sv_cc s)))), (h3, .inl (tyI D, 4, .inl (nf (sv_cr s)))), (h4, .inl (tyI D, 4, .inl (sv_se s)))]) O (kX7_swingAt l D z w0 w1 w2 w3 w4 w ((sv_cc s) i_) ((sv_cr s) i_) (by first | assumption | omega | exact (hcc _ (by omega)).1 | exact (hcc _ (by omega)).2) (by first | assumption | omega | exact (hcc _ (by omega)).1 | exact (hcc _ (by omega)).2) (by first | assumption | omega | exact (hcc _ (by omega)).1 | exact (hcc _ (by omega)).2)) gX0_clampsAllow_X7_swingAt rfl rfl rfl 3 (by decide +kernel) (by decide) (by decide) (q0 := 0) rfl rfl rfl [1, 2, 3, 4, 5] [0, 6, 7, 8, 9] rfl (by decide) rfl (by decide) (by decide) rfl rfl (Nat.le_of_ble_eq_true rfl) dX0_clampsAllow_36 (fun r_2 w_3 hp => ?_)
        obtain ⟨rfl, rfl⟩ := hp
        refine g_eq (st' := [.int (SW w (12 * ((sv_cr s) i_) + ((sv_cc s) i_)))]) (ws' := [(c0, .inr (0, [.ref w0, .ref h0, .ref c1, .int (nI pn), .ref c2])), (h0, .inr (5, [.ref h1, .ref h2, .ref h3, .int (nI (sv_nc s)), .ref h4, .ref h5, .int (sv_la s), .int (sv_st s), .int (sv_sw s), .int (sv_fl s), .int (sv_sk s), .int (sv_mu s)])), (h2, .inl (tyI D, 4, .inl (nf (sv_cc s)))), (h3, .inl (tyI D, 4, .inl (nf (sv_cr s)))), (h4, .inl (tyI D, 4, .inl (sv_se s))), (w0, .inr (7, [.ref w1, .ref w2, .ref w3, .ref w4, .int (nI 48)])), (w1, .inl (tyI D, 48, .inl (nf tM))), (w2, .inl (tyI D, 48, .inl (nf tN))), (w3, .inl (tyI D, 48, .inl (nf tS))), (w4, .inl (tyI D, 84, .inl hT))]) rfl rfl rfl ?_
        refine g_istore_n (L' := [(0, .ref c0), (1, .int (nI w)), (2, .int (nI i_)), (3, .int (SW w (12 * ((sv_cr s) i_) + ((sv_cc s) i_))))]) O dX0_clampsAllow_39 rfl (by decide) [1, 2, 3, 0] rfl ?_
        refine g_iload_n O dX0_clampsAllow_40 3 rfl rfl ?_
        refine g_aload_n O dX0_clampsAllow_41 0 rfl rfl ?_
        refine g_get O hiX0_clampsAllow_X0 0 rfl rfl 1 (by decide) (by decide +kernel) rfl dX0_clampsAllow_42 ?_
        refine g_getN O hiX0_clampsAllow_X5 1 rfl rfl 4 (by decide) 19 rfl rfl dX0_clampsAllow_45 ?_
        refine g_iconst (x := (nI 0)) O dX0_clampsAllow_48 (by decide +kernel) ?_
        refine g_ialdN O 4 rfl (by omega) (by omega) dX0_clampsAllow_49 ?_
        refine g_icmp_le (tgt := 55) O dX0_clampsAllow_50 (by decide) (fun c_4 => ?_) (fun c_4 => ?_)
        ·
          refine g_iincN (L' := [(0, .ref c0), (1, .int (nI w)), (2, .int (nI (i_ + 1))), (3, .int (SW w (12 * ((sv_cr s) i_) + ((sv_cc s) i_))))]) O dX0_clampsAllow_55 2 rfl (by decide) [1, 2, 0, 3] rfl ?_
          refine g_goto (tgt := 2) O dX0_clampsAllow_58 (by decide) ?_
          refine g_perm (ws' := [(c0, .inr (0, [.ref w0, .ref h0, .ref c1, .int (nI pn), .ref c2])), (w0, .inr (7, [.ref w1, .ref w2, .ref w3, .ref w4, .int (nI 48)])), (w1, .inl (tyI D, 48, .inl (nf tM))), (w2, .inl (tyI D, 48, .inl (nf tN))), (w3, .inl (tyI D, 48, .inl (nf tS))), (w4, .inl (tyI D, 84, .inl hT)), (h0, .inr (5, [.ref h1, .ref h2, .ref h3, .int (nI (sv_nc s)), .ref h4, .ref h5, .int (sv_la s), .int (sv_st s), .int (sv_sw s), .int (sv_fl s), .int (sv_sk s), .int (sv_mu s)])), (h2, .inl (tyI D, 4, .inl (nf (sv_cc s)))), (h3, .inl (tyI D, 4, .inl (nf (sv_cr s)))), (h4, .inl (tyI D, 4, .inl (sv_se s)))]) [0, 5, 6, 7, 8, 9, 1, 2, 3, 4] rfl (by decide) ?_
          refine g_locals (L' := [(0, .ref c0), (1, .int (nI w)), (2, .int (nI (i_ + 1)))]) [0, 1, 2] rfl ?_
          exact ih_ (i_ + 1) (by first | assumption | omega | rfl) (fun j hj => by rcases Nat.lt_succ_iff_lt_or_eq.mp hj with h | h; exact hno j h; subst h; simp_all) (by omega)
        ·
          refine g_iconst (x := (nI 0)) O dX0_clampsAllow_53 (by decide +kernel) ?_
          refine g_perm (ws' := [(c0, .inr (0, [.ref w0, .ref h0, .ref c1, .int (nI pn), .ref c2])), (w0, .inr (7, [.ref w1, .ref w2, .ref w3, .ref w4, .int (nI 48)])), (w1, .inl (tyI D, 48, .inl (nf tM))), (w2, .inl (tyI D, 48, .inl (nf tN))), (w3, .inl (tyI D, 48, .inl (nf tS))), (w4, .inl (tyI D, 84, .inl hT)), (h0, .inr (5, [.ref h1, .ref h2, .ref h3, .int (nI (sv_nc s)), .ref h4, .ref h5, .int (sv_la s), .int (sv_st s), .int (sv_sw s), .int (sv_fl s), .int (sv_sk s), .int (sv_mu s)])), (h2, .inl (tyI D, 4, .inl (nf (sv_cc s)))), (h3, .inl (tyI D, 4, .inl (nf (sv_cr s)))), (h4, .inl (tyI D, 4, .inl (sv_se s)))]) [0, 5, 6, 7, 8, 9, 1, 2, 3, 4] rfl (by decide) ?_
          refine g_eq (st' := [.int (bB false)]) rfl rfl rfl ?_
          exact E 54 _ false _ dX0_clampsAllow_54 (by rw [clB_f (c := i_) (by omega) (by simp_all)]; exact ⟨rfl, rfl⟩)
  exact J2 _ 0 (Nat.zero_le _) (fun j hj => absurd hj (Nat.not_lt_zero _)) (Nat.lt_succ_self _)
theorem hiX0_swingAtBow_X0 : ∀ w ∈ wsX00, w ∈ wsX0_swingAtBow := by decide +kernel
set_option maxHeartbeats 2000000 in
set_option maxRecDepth 100000 in
/-- the swing at a bow -/
theorem kX0_swingAtBow (l : Launch) (D : va_G) (z : Nat × Nat × Nat) (c0 : Nat) (c1 : Nat) (c2 : Nat) (pn : Nat) (w0 : Nat) (w1 : Nat) (w2 : Nat) (w3 : Nat) (w4 : Nat) (h0 : Nat) (w : Nat) (sd : Nat) (al : Nat) (hw : w < 48) (hsd : sd < 4) (hal : al < 12) : CM l yX0_swingAtBow wsX0_swingAtBow ({ frames := 2, cells := 0, slots := 0, locals := 48 } : Room) D z [.ref c0, .int (nI w), .int (nI sd), .int (nI al)] [(c0, .inr (0, [.ref w0, .ref h0, .ref c1, .int (nI pn), .ref c2])), (w0, .inr (7, [.ref w1, .ref w2, .ref w3, .ref w4, .int (nI 48)])), (w1, .inl (tyI D, 48, .inl (nf tM))), (w2, .inl (tyI D, 48, .inl (nf tN))), (w3, .inl (tyI D, 48, .inl (nf tS))), (w4, .inl (tyI D, 84, .inl hT))] (fun r_ w_ => r_ = some (.int (SW w (bpN sd al))) ∧ w_ = [(c0, .inr (0, [.ref w0, .ref h0, .ref c1, .int (nI pn), .ref c2])), (w0, .inr (7, [.ref w1, .ref w2, .ref w3, .ref w4, .int (nI 48)])), (w1, .inl (tyI D, 48, .inl (nf tM))), (w2, .inl (tyI D, 48, .inl (nf tN))), (w3, .inl (tyI D, 48, .inl (nf tS))), (w4, .inl (tyI D, 84, .inl hT))]) 0 0 := by
  refine CM_int (own := RX0) (cc := cX0_swingAtBow) (maxL := 4) (L0 := [(0, .ref c0), (1, .int (nI w)), (2, .int (nI sd)), (3, .int (nI al))]) (by decide) rfl rfl (Nat.le_of_ble_eq_true rfl) rfl (fun X O E => ?_)
  refine g_iload_n O dX0_swingAtBow_0 2 rfl rfl ?_
  rcases (show sd = 0 ∨ sd = 1 ∨ sd = 2 ∨ sd = 3 by omega) with rfl | rfl | rfl | rfl
  ·
    refine g_tableIn (off := 27) (tgt := 28) O dX0_swingAtBow_1 (by decide +kernel) (by decide +kernel) (by decide +kernel) (by decide) ?_
    refine g_aload_n O dX0_swingAtBow_28 0 rfl rfl ?_
    refine g_get O hiX0_swingAtBow_X0 0 rfl rfl 0 (by decide) (by decide +kernel) rfl dX0_swingAtBow_29 ?_
    refine g_iload_n O dX0_swingAtBow_32 1 rfl rfl ?_
    refine g_iload_n O dX0_swingAtBow_33 3 rfl rfl ?_
    refine g_iconst (x := (nI 0)) O dX0_swingAtBow_34 (by decide +kernel) ?_
    refine g_callV (As := [.int (nI w), .int (nI al), .int (nI 0)]) (wr := [(c0, .inr (0, [.ref w0, .ref h0, .ref c1, .int (nI pn), .ref c2]))]) O (kX7_swingAt l D z w0 w1 w2 w3 w4 w al 0 (by first | assumption | omega) (by first | assumption | omega) (by first | assumption | omega)) gX0_swingAtBow_X7_swingAt rfl rfl rfl 3 (by decide +kernel) (by decide) (by decide) (q0 := 0) rfl rfl rfl [1, 2, 3, 4, 5] [0] rfl (by decide) rfl (by decide) (by decide) rfl rfl (Nat.le_of_ble_eq_true rfl) dX0_swingAtBow_35 (fun r_1 w_2 hp => ?_)
    obtain ⟨rfl, rfl⟩ := hp
    refine g_eq (st' := [.int (SW w (12 * 0 + al))]) (ws' := [(c0, .inr (0, [.ref w0, .ref h0, .ref c1, .int (nI pn), .ref c2])), (w0, .inr (7, [.ref w1, .ref w2, .ref w3, .ref w4, .int (nI 48)])), (w1, .inl (tyI D, 48, .inl (nf tM))), (w2, .inl (tyI D, 48, .inl (nf tN))), (w3, .inl (tyI D, 48, .inl (nf tS))), (w4, .inl (tyI D, 84, .inl hT))]) rfl rfl rfl ?_
    exact E 38 _ (SW w (12 * 0 + al)) _ dX0_swingAtBow_38 (by rw [show bpN 0 al = 12 * 0 + al by simp only [bpN]; simp <;> omega]; exact ⟨rfl, rfl⟩)
  ·
    refine g_tableIn (off := 38) (tgt := 39) O dX0_swingAtBow_1 (by decide +kernel) (by decide +kernel) (by decide +kernel) (by decide) ?_
    refine g_aload_n O dX0_swingAtBow_39 0 rfl rfl ?_
    refine g_get O hiX0_swingAtBow_X0 0 rfl rfl 0 (by decide) (by decide +kernel) rfl dX0_swingAtBow_40 ?_
    refine g_iload_n O dX0_swingAtBow_43 1 rfl rfl ?_
    refine g_bipush (x := (nI 11)) O dX0_swingAtBow_44 (by decide +kernel) ?_
    refine g_iload_n O dX0_swingAtBow_46 3 rfl rfl ?_
    refine g_callV (As := [.int (nI w), .int (nI 11), .int (nI al)]) (wr := [(c0, .inr (0, [.ref w0, .ref h0, .ref c1, .int (nI pn), .ref c2]))]) O (kX7_swingAt l D z w0 w1 w2 w3 w4 w 11 al (by first | assumption | omega) (by first | assumption | omega) (by first | assumption | omega)) gX0_swingAtBow_X7_swingAt rfl rfl rfl 3 (by decide +kernel) (by decide) (by decide) (q0 := 0) rfl rfl rfl [1, 2, 3, 4, 5] [0] rfl (by decide) rfl (by decide) (by decide) rfl rfl (Nat.le_of_ble_eq_true rfl) dX0_swingAtBow_47 (fun r_3 w_4 hp => ?_)
    obtain ⟨rfl, rfl⟩ := hp
    refine g_eq (st' := [.int (SW w (12 * al + 11))]) (ws' := [(c0, .inr (0, [.ref w0, .ref h0, .ref c1, .int (nI pn), .ref c2])), (w0, .inr (7, [.ref w1, .ref w2, .ref w3, .ref w4, .int (nI 48)])), (w1, .inl (tyI D, 48, .inl (nf tM))), (w2, .inl (tyI D, 48, .inl (nf tN))), (w3, .inl (tyI D, 48, .inl (nf tS))), (w4, .inl (tyI D, 84, .inl hT))]) rfl rfl rfl ?_
    exact E 50 _ (SW w (12 * al + 11)) _ dX0_swingAtBow_50 (by rw [show bpN 1 al = 12 * al + 11 by simp only [bpN]; simp <;> omega]; exact ⟨rfl, rfl⟩)
  ·
    refine g_tableIn (off := 50) (tgt := 51) O dX0_swingAtBow_1 (by decide +kernel) (by decide +kernel) (by decide +kernel) (by decide) ?_
    refine g_aload_n O dX0_swingAtBow_51 0 rfl rfl ?_
    refine g_get O hiX0_swingAtBow_X0 0 rfl rfl 0 (by decide) (by decide +kernel) rfl dX0_swingAtBow_52 ?_
    refine g_iload_n O dX0_swingAtBow_55 1 rfl rfl ?_
    refine g_iload_n O dX0_swingAtBow_56 3 rfl rfl ?_
    refine g_bipush (x := (nI 11)) O dX0_swingAtBow_57 (by decide +kernel) ?_
    refine g_callV (As := [.int (nI w), .int (nI al), .int (nI 11)]) (wr := [(c0, .inr (0, [.ref w0, .ref h0, .ref c1, .int (nI pn), .ref c2]))]) O (kX7_swingAt l D z w0 w1 w2 w3 w4 w al 11 (by first | assumption | omega) (by first | assumption | omega) (by first | assumption | omega)) gX0_swingAtBow_X7_swingAt rfl rfl rfl 3 (by decide +kernel) (by decide) (by decide) (q0 := 0) rfl rfl rfl [1, 2, 3, 4, 5] [0] rfl (by decide) rfl (by decide) (by decide) rfl rfl (Nat.le_of_ble_eq_true rfl) dX0_swingAtBow_59 (fun r_5 w_6 hp => ?_)
    obtain ⟨rfl, rfl⟩ := hp
    refine g_eq (st' := [.int (SW w (12 * 11 + al))]) (ws' := [(c0, .inr (0, [.ref w0, .ref h0, .ref c1, .int (nI pn), .ref c2])), (w0, .inr (7, [.ref w1, .ref w2, .ref w3, .ref w4, .int (nI 48)])), (w1, .inl (tyI D, 48, .inl (nf tM))), (w2, .inl (tyI D, 48, .inl (nf tN))), (w3, .inl (tyI D, 48, .inl (nf tS))), (w4, .inl (tyI D, 84, .inl hT))]) rfl rfl rfl ?_
    exact E 62 _ (SW w (12 * 11 + al)) _ dX0_swingAtBow_62 (by rw [show bpN 2 al = 12 * 11 + al by simp only [bpN]; simp <;> omega]; exact ⟨rfl, rfl⟩)
  ·
    refine g_tableO (tgt := 63) (N := 3) O dX0_swingAtBow_1 (Or.inr (by decide +kernel)) (by decide) (by decide) (by decide) ?_
    refine g_aload_n O dX0_swingAtBow_63 0 rfl rfl ?_
    refine g_get O hiX0_swingAtBow_X0 0 rfl rfl 0 (by decide) (by decide +kernel) rfl dX0_swingAtBow_64 ?_
    refine g_iload_n O dX0_swingAtBow_67 1 rfl rfl ?_
    refine g_iconst (x := (nI 0)) O dX0_swingAtBow_68 (by decide +kernel) ?_
    refine g_iload_n O dX0_swingAtBow_69 3 rfl rfl ?_
    refine g_callV (As := [.int (nI w), .int (nI 0), .int (nI al)]) (wr := [(c0, .inr (0, [.ref w0, .ref h0, .ref c1, .int (nI pn), .ref c2]))]) O (kX7_swingAt l D z w0 w1 w2 w3 w4 w 0 al (by first | assumption | omega) (by first | assumption | omega) (by first | assumption | omega)) gX0_swingAtBow_X7_swingAt rfl rfl rfl 3 (by decide +kernel) (by decide) (by decide) (q0 := 0) rfl rfl rfl [1, 2, 3, 4, 5] [0] rfl (by decide) rfl (by decide) (by decide) rfl rfl (Nat.le_of_ble_eq_true rfl) dX0_swingAtBow_70 (fun r_7 w_8 hp => ?_)
    obtain ⟨rfl, rfl⟩ := hp
    refine g_eq (st' := [.int (SW w (12 * al + 0))]) (ws' := [(c0, .inr (0, [.ref w0, .ref h0, .ref c1, .int (nI pn), .ref c2])), (w0, .inr (7, [.ref w1, .ref w2, .ref w3, .ref w4, .int (nI 48)])), (w1, .inl (tyI D, 48, .inl (nf tM))), (w2, .inl (tyI D, 48, .inl (nf tN))), (w3, .inl (tyI D, 48, .inl (nf tS))), (w4, .inl (tyI D, 84, .inl hT))]) rfl rfl rfl ?_
    exact E 73 _ (SW w (12 * al + 0)) _ dX0_swingAtBow_73 (by rw [show bpN 3 al = 12 * al + 0 by simp only [bpN]; simp <;> omega]; exact ⟨rfl, rfl⟩)
theorem hiX0_bowAllows_X0 : ∀ w ∈ wsX00, w ∈ wsX0_bowAllows := by decide +kernel
theorem hiX0_bowAllows_X5 : ∀ w ∈ wsX50, w ∈ wsX0_bowAllows := by decide +kernel
set_option maxHeartbeats 2000000 in
set_option maxRecDepth 100000 in
/-- whether a bow lets a way be -/
theorem kX0_bowAllows (l : Launch) (D : va_G) (z : Nat × Nat × Nat) (c0 : Nat) (c1 : Nat) (c2 : Nat) (pn : Nat) (w0 : Nat) (w1 : Nat) (w2 : Nat) (w3 : Nat) (w4 : Nat) (h0 : Nat) (h1 : Nat) (h2 : Nat) (h3 : Nat) (h4 : Nat) (h5 : Nat) (s : SV) (w : Nat) (sd : Nat) (al : Nat) (hw : w < 48) (hsd : sd < 4) (hal : al < 12) : CM l yX0_bowAllows wsX0_bowAllows ({ frames := 3, cells := 0, slots := 0, locals := 71 } : Room) D z [.ref c0, .int (nI w), .int (nI sd), .int (nI al)] [(c0, .inr (0, [.ref w0, .ref h0, .ref c1, .int (nI pn), .ref c2])), (w0, .inr (7, [.ref w1, .ref w2, .ref w3, .ref w4, .int (nI 48)])), (w1, .inl (tyI D, 48, .inl (nf tM))), (w2, .inl (tyI D, 48, .inl (nf tN))), (w3, .inl (tyI D, 48, .inl (nf tS))), (w4, .inl (tyI D, 84, .inl hT)), (h0, .inr (5, [.ref h1, .ref h2, .ref h3, .int (nI (sv_nc s)), .ref h4, .ref h5, .int (sv_la s), .int (sv_st s), .int (sv_sw s), .int (sv_fl s), .int (sv_sk s), .int (sv_mu s)])), (h4, .inl (tyI D, 4, .inl (sv_se s)))] (fun r_ w_ => r_ = some (.int (bB (bwB s w (bpN sd al)))) ∧ w_ = [(c0, .inr (0, [.ref w0, .ref h0, .ref c1, .int (nI pn), .ref c2])), (w0, .inr (7, [.ref w1, .ref w2, .ref w3, .ref w4, .int (nI 48)])), (w1, .inl (tyI D, 48, .inl (nf tM))), (w2, .inl (tyI D, 48, .inl (nf tN))), (w3, .inl (tyI D, 48, .inl (nf tS))), (w4, .inl (tyI D, 84, .inl hT)), (h0, .inr (5, [.ref h1, .ref h2, .ref h3, .int (nI (sv_nc s)), .ref h4, .ref h5, .int (sv_la s), .int (sv_st s), .int (sv_sw s), .int (sv_fl s), .int (sv_sk s), .int (sv_mu s)])), (h4, .inl (tyI D, 4, .inl (sv_se s)))]) 0 0 := by
  refine CM_bool (own := RX0) (cc := cX0_bowAllows) (maxL := 4) (L0 := [(0, .ref c0), (1, .int (nI w)), (2, .int (nI sd)), (3, .int (nI al))]) (by decide) rfl rfl (Nat.le_of_ble_eq_true rfl) rfl (fun X O E => ?_)
  refine g_aload_n O dX0_bowAllows_0 0 rfl rfl ?_
  refine g_iload_n O dX0_bowAllows_1 1 rfl rfl ?_
  refine g_iload_n O dX0_bowAllows_2 2 rfl rfl ?_
  refine g_iload_n O dX0_bowAllows_3 3 rfl rfl ?_
  refine g_callV (As := [.int (nI w), .int (nI sd), .int (nI al)]) (wr := [(h0, .inr (5, [.ref h1, .ref h2, .ref h3, .int (nI (sv_nc s)), .ref h4, .ref h5, .int (sv_la s), .int (sv_st s), .int (sv_sw s), .int (sv_fl s), .int (sv_sk s), .int (sv_mu s)])), (h4, .inl (tyI D, 4, .inl (sv_se s)))]) O (kX0_swingAtBow l D z c0 c1 c2 pn w0 w1 w2 w3 w4 h0 w sd al (by first | assumption | omega) (by first | assumption | omega) (by first | assumption | omega)) gX0_bowAllows_X0_swingAtBow rfl rfl rfl 3 (by decide +kernel) (by decide) (by decide) (q0 := 0) rfl rfl rfl [0, 1, 2, 3, 4, 5] [6, 7] rfl (by decide) rfl (by decide) (by decide) rfl rfl (Nat.le_of_ble_eq_true rfl) dX0_bowAllows_4 (fun r_1 w_2 hp => ?_)
  obtain ⟨rfl, rfl⟩ := hp
  refine g_eq (st' := [.int (SW w (bpN sd al))]) (ws' := [(h0, .inr (5, [.ref h1, .ref h2, .ref h3, .int (nI (sv_nc s)), .ref h4, .ref h5, .int (sv_la s), .int (sv_st s), .int (sv_sw s), .int (sv_fl s), .int (sv_sk s), .int (sv_mu s)])), (h4, .inl (tyI D, 4, .inl (sv_se s))), (c0, .inr (0, [.ref w0, .ref h0, .ref c1, .int (nI pn), .ref c2])), (w0, .inr (7, [.ref w1, .ref w2, .ref w3, .ref w4, .int (nI 48)])), (w1, .inl (tyI D, 48, .inl (nf tM))), (w2, .inl (tyI D, 48, .inl (nf tN))), (w3, .inl (tyI D, 48, .inl (nf tS))), (w4, .inl (tyI D, 84, .inl hT))]) rfl rfl rfl ?_
  refine g_aload_n O dX0_bowAllows_7 0 rfl rfl ?_
  refine g_get O hiX0_bowAllows_X0 2 rfl rfl 1 (by decide) (by decide +kernel) rfl dX0_bowAllows_8 ?_
  refine g_getN O hiX0_bowAllows_X5 0 rfl rfl 4 (by decide) 19 rfl rfl dX0_bowAllows_11 ?_
  refine g_iconst (x := (nI 1)) O dX0_bowAllows_14 (by decide +kernel) ?_
  refine g_ialdN O 1 rfl (by omega) (by omega) dX0_bowAllows_15 ?_
  refine g_icmp_lt (tgt := 23) O dX0_bowAllows_16 (by decide) (fun c_3 => ?_) (fun c_3 => ?_)
  ·
    refine g_iconst (x := (nI 0)) O dX0_bowAllows_23 (by decide +kernel) ?_
    refine g_perm (ws' := [(c0, .inr (0, [.ref w0, .ref h0, .ref c1, .int (nI pn), .ref c2])), (w0, .inr (7, [.ref w1, .ref w2, .ref w3, .ref w4, .int (nI 48)])), (w1, .inl (tyI D, 48, .inl (nf tM))), (w2, .inl (tyI D, 48, .inl (nf tN))), (w3, .inl (tyI D, 48, .inl (nf tS))), (w4, .inl (tyI D, 84, .inl hT)), (h0, .inr (5, [.ref h1, .ref h2, .ref h3, .int (nI (sv_nc s)), .ref h4, .ref h5, .int (sv_la s), .int (sv_st s), .int (sv_sw s), .int (sv_fl s), .int (sv_sk s), .int (sv_mu s)])), (h4, .inl (tyI D, 4, .inl (sv_se s)))]) [2, 3, 4, 5, 6, 7, 0, 1] rfl (by decide) ?_
    refine g_eq (st' := [.int (bB false)]) rfl rfl rfl ?_
    exact E 24 _ false _ dX0_bowAllows_24 (by first | (rw [show bwB s w (bpN sd al) = true from decide_eq_true (by simp_all [Int32.not_lt])]; exact ⟨rfl, rfl⟩) | (rw [show bwB s w (bpN sd al) = false from decide_eq_false (by simp_all [Int32.not_le])]; exact ⟨rfl, rfl⟩))
  ·
    refine g_iconst (x := (nI 1)) O dX0_bowAllows_19 (by decide +kernel) ?_
    refine g_goto (tgt := 24) O dX0_bowAllows_20 (by decide) ?_
    refine g_perm (ws' := [(c0, .inr (0, [.ref w0, .ref h0, .ref c1, .int (nI pn), .ref c2])), (w0, .inr (7, [.ref w1, .ref w2, .ref w3, .ref w4, .int (nI 48)])), (w1, .inl (tyI D, 48, .inl (nf tM))), (w2, .inl (tyI D, 48, .inl (nf tN))), (w3, .inl (tyI D, 48, .inl (nf tS))), (w4, .inl (tyI D, 84, .inl hT)), (h0, .inr (5, [.ref h1, .ref h2, .ref h3, .int (nI (sv_nc s)), .ref h4, .ref h5, .int (sv_la s), .int (sv_st s), .int (sv_sw s), .int (sv_fl s), .int (sv_sk s), .int (sv_mu s)])), (h4, .inl (tyI D, 4, .inl (sv_se s)))]) [2, 3, 4, 5, 6, 7, 0, 1] rfl (by decide) ?_
    refine g_eq (st' := [.int (bB true)]) rfl rfl rfl ?_
    exact E 24 _ true _ dX0_bowAllows_24 (by first | (rw [show bwB s w (bpN sd al) = true from decide_eq_true (by simp_all [Int32.not_lt])]; exact ⟨rfl, rfl⟩) | (rw [show bwB s w (bpN sd al) = false from decide_eq_false (by simp_all [Int32.not_le])]; exact ⟨rfl, rfl⟩))
set_option maxHeartbeats 2000000 in
set_option maxRecDepth 100000 in
/-- the way that sounds -/
theorem kX0_wayFor (l : Launch) (D : va_G) (z : Nat × Nat × Nat) (c0 : Nat) (c1 : Nat) (c2 : Nat) (pn : Nat) (w0 : Nat) (w1 : Nat) (w2 : Nat) (w3 : Nat) (w4 : Nat) (h0 : Nat) (h1 : Nat) (h2 : Nat) (h3 : Nat) (h4 : Nat) (h5 : Nat) (s : SV) (sd : Nat) (al : Nat) (hnc : sv_nc s ≤ 4) (hcc : ∀ j, j < sv_nc s → sv_cc s j < 12 ∧ sv_cr s j < 12) (hsd : sd < 4) (hal : al < 12) : CM l yX0_wayFor wsX0_wayFor ({ frames := 4, cells := 0, slots := 0, locals := 94 } : Room) D z [.ref c0, .int (nI sd), .int (nI al)] [(c0, .inr (0, [.ref w0, .ref h0, .ref c1, .int (nI pn), .ref c2])), (w0, .inr (7, [.ref w1, .ref w2, .ref w3, .ref w4, .int (nI 48)])), (w1, .inl (tyI D, 48, .inl (nf tM))), (w2, .inl (tyI D, 48, .inl (nf tN))), (w3, .inl (tyI D, 48, .inl (nf tS))), (w4, .inl (tyI D, 84, .inl hT)), (h0, .inr (5, [.ref h1, .ref h2, .ref h3, .int (nI (sv_nc s)), .ref h4, .ref h5, .int (sv_la s), .int (sv_st s), .int (sv_sw s), .int (sv_fl s), .int (sv_sk s), .int (sv_mu s)])), (h2, .inl (tyI D, 4, .inl (nf (sv_cc s)))), (h3, .inl (tyI D, 4, .inl (nf (sv_cr s)))), (h4, .inl (tyI D, 4, .inl (sv_se s)))] (fun r_ w_ => r_ = some (.int (orM (wyO s (bpN sd al)))) ∧ w_ = [(c0, .inr (0, [.ref w0, .ref h0, .ref c1, .int (nI pn), .ref c2])), (w0, .inr (7, [.ref w1, .ref w2, .ref w3, .ref w4, .int (nI 48)])), (w1, .inl (tyI D, 48, .inl (nf tM))), (w2, .inl (tyI D, 48, .inl (nf tN))), (w3, .inl (tyI D, 48, .inl (nf tS))), (w4, .inl (tyI D, 84, .inl hT)), (h0, .inr (5, [.ref h1, .ref h2, .ref h3, .int (nI (sv_nc s)), .ref h4, .ref h5, .int (sv_la s), .int (sv_st s), .int (sv_sw s), .int (sv_fl s), .int (sv_sk s), .int (sv_mu s)])), (h2, .inl (tyI D, 4, .inl (nf (sv_cc s)))), (h3, .inl (tyI D, 4, .inl (nf (sv_cr s)))), (h4, .inl (tyI D, 4, .inl (sv_se s)))]) 0 0 := by
  refine CM_int (own := RX0) (cc := cX0_wayFor) (maxL := 4) (L0 := [(0, .ref c0), (1, .int (nI sd)), (2, .int (nI al))]) (by decide) rfl rfl (Nat.le_of_ble_eq_true rfl) rfl (fun X O E => ?_)
  refine g_iconst (x := (nI 0)) O dX0_wayFor_0 (by decide +kernel) ?_
  refine g_istore_n (L' := [(0, .ref c0), (1, .int (nI sd)), (2, .int (nI al)), (3, .int (nI 0))]) O dX0_wayFor_1 rfl (by decide) [1, 2, 3, 0] rfl ?_
  have J2 : ∀ (n_ : Nat), ∀ (i_ : Nat) (hi_ : i_ ≤ 48) (hno : ∀ j, j < i_ → (bwB s j (bpN sd al) && clB s j) = false), 48 - i_ < n_ → G X 0 0 2 [(0, .ref c0), (1, .int (nI sd)), (2, .int (nI al)), (3, .int (nI i_))] [] [(c0, .inr (0, [.ref w0, .ref h0, .ref c1, .int (nI pn), .ref c2])), (w0, .inr (7, [.ref w1, .ref w2, .ref w3, .ref w4, .int (nI 48)])), (w1, .inl (tyI D, 48, .inl (nf tM))), (w2, .inl (tyI D, 48, .inl (nf tN))), (w3, .inl (tyI D, 48, .inl (nf tS))), (w4, .inl (tyI D, 84, .inl hT)), (h0, .inr (5, [.ref h1, .ref h2, .ref h3, .int (nI (sv_nc s)), .ref h4, .ref h5, .int (sv_la s), .int (sv_st s), .int (sv_sw s), .int (sv_fl s), .int (sv_sk s), .int (sv_mu s)])), (h2, .inl (tyI D, 4, .inl (nf (sv_cc s)))), (h3, .inl (tyI D, 4, .inl (nf (sv_cr s)))), (h4, .inl (tyI D, 4, .inl (sv_se s)))] := by
    intro n_
    induction n_ with
    | zero => intro i_ hi_ hno hm_; exact absurd hm_ (Nat.not_lt_zero _)
    | succ n_ ih_ =>
      intro i_ hi_ hno hm_
      refine g_iload_n O dX0_wayFor_2 3 rfl rfl ?_
      refine g_bipush (x := (nI 48)) O dX0_wayFor_3 (by decide +kernel) ?_
      refine g_icmp_geN (tgt := 34) O (by omega) (by omega) dX0_wayFor_5 (by decide) (fun c_1 => ?_) (fun c_1 => ?_)
      ·
        obtain rfl : i_ = 48 := by omega
        refine g_iconst (x := (-1)) O dX0_wayFor_34 (by decide +kernel) ?_
        exact E 35 _ (-1) _ dX0_wayFor_35 (by rw [show wyO s (bpN sd al) = none from fdB_none.mpr hno]; exact ⟨rfl, rfl⟩)
      ·
        refine g_aload_n O dX0_wayFor_8 0 rfl rfl ?_
        refine g_iload_n O dX0_wayFor_9 3 rfl rfl ?_
        refine g_iload_n O dX0_wayFor_10 1 rfl rfl ?_
        refine g_iload_n O dX0_wayFor_11 2 rfl rfl ?_
        refine g_callV (As := [.int (nI i_), .int (nI sd), .int (nI al)]) (wr := [(h2, .inl (tyI D, 4, .inl (nf (sv_cc s)))), (h3, .inl (tyI D, 4, .inl (nf (sv_cr s))))]) O (kX0_bowAllows l D z c0 c1 c2 pn w0 w1 w2 w3 w4 h0 h1 h2 h3 h4 h5 s i_ sd al (by first | assumption | omega) (by first | assumption | omega) (by first | assumption | omega)) gX0_wayFor_X0_bowAllows rfl rfl rfl 3 (by decide +kernel) (by decide) (by decide) (q0 := 0) rfl rfl rfl [0, 1, 2, 3, 4, 5, 6, 9] [7, 8] rfl (by decide) rfl (by decide) (by decide) rfl rfl (Nat.le_of_ble_eq_true rfl) dX0_wayFor_12 (fun r_2 w_3 hp => ?_)
        obtain ⟨rfl, rfl⟩ := hp
        refine g_eq (st' := [.int (bB (bwB s i_ (bpN sd al)))]) (ws' := [(h2, .inl (tyI D, 4, .inl (nf (sv_cc s)))), (h3, .inl (tyI D, 4, .inl (nf (sv_cr s)))), (c0, .inr (0, [.ref w0, .ref h0, .ref c1, .int (nI pn), .ref c2])), (w0, .inr (7, [.ref w1, .ref w2, .ref w3, .ref w4, .int (nI 48)])), (w1, .inl (tyI D, 48, .inl (nf tM))), (w2, .inl (tyI D, 48, .inl (nf tN))), (w3, .inl (tyI D, 48, .inl (nf tS))), (w4, .inl (tyI D, 84, .inl hT)), (h0, .inr (5, [.ref h1, .ref h2, .ref h3, .int (nI (sv_nc s)), .ref h4, .ref h5, .int (sv_la s), .int (sv_st s), .int (sv_sw s), .int (sv_fl s), .int (sv_sk s), .int (sv_mu s)])), (h4, .inl (tyI D, 4, .inl (sv_se s)))]) rfl rfl rfl ?_
        refine g_if_eqB (tgt := 28) O dX0_wayFor_15 (by decide) (fun c_4 => ?_) (fun c_4 => ?_)
        ·
          refine g_iincN (L' := [(0, .ref c0), (1, .int (nI sd)), (2, .int (nI al)), (3, .int (nI (i_ + 1)))]) O dX0_wayFor_28 3 rfl (by decide) [1, 2, 3, 0] rfl ?_
          refine g_goto (tgt := 2) O dX0_wayFor_31 (by decide) ?_
          refine g_perm (ws' := [(c0, .inr (0, [.ref w0, .ref h0, .ref c1, .int (nI pn), .ref c2])), (w0, .inr (7, [.ref w1, .ref w2, .ref w3, .ref w4, .int (nI 48)])), (w1, .inl (tyI D, 48, .inl (nf tM))), (w2, .inl (tyI D, 48, .inl (nf tN))), (w3, .inl (tyI D, 48, .inl (nf tS))), (w4, .inl (tyI D, 84, .inl hT)), (h0, .inr (5, [.ref h1, .ref h2, .ref h3, .int (nI (sv_nc s)), .ref h4, .ref h5, .int (sv_la s), .int (sv_st s), .int (sv_sw s), .int (sv_fl s), .int (sv_sk s), .int (sv_mu s)])), (h2, .inl (tyI D, 4, .inl (nf (sv_cc s)))), (h3, .inl (tyI D, 4, .inl (nf (sv_cr s)))), (h4, .inl (tyI D, 4, .inl (sv_se s)))]) [2, 3, 4, 5, 6, 7, 8, 0, 1, 9] rfl (by decide) ?_
          exact ih_ (i_ + 1) (by first | assumption | omega | rfl) (fun j hj => by rcases Nat.lt_succ_iff_lt_or_eq.mp hj with h | h; exact hno j h; subst h; simp_all) (by omega)
        ·
          refine g_aload_n O dX0_wayFor_18 0 rfl rfl ?_
          refine g_iload_n O dX0_wayFor_19 3 rfl rfl ?_
          refine g_callV (As := [.int (nI i_)]) (wr := []) O (kX0_clampsAllow l D z c0 c1 c2 pn w0 w1 w2 w3 w4 h0 h1 h2 h3 h4 h5 s i_ (by first | assumption | omega) (by first | assumption | omega) (by first | assumption | omega)) gX0_wayFor_X0_clampsAllow rfl rfl rfl 1 (by decide +kernel) (by decide) (by decide) (q0 := 0) rfl rfl rfl [2, 3, 4, 5, 6, 7, 8, 0, 1, 9] [] rfl (by decide) rfl (by decide) (by decide) rfl rfl (Nat.le_of_ble_eq_true rfl) dX0_wayFor_20 (fun r_5 w_6 hp => ?_)
          obtain ⟨rfl, rfl⟩ := hp
          refine g_eq (st' := [.int (bB (clB s i_))]) (ws' := [(c0, .inr (0, [.ref w0, .ref h0, .ref c1, .int (nI pn), .ref c2])), (w0, .inr (7, [.ref w1, .ref w2, .ref w3, .ref w4, .int (nI 48)])), (w1, .inl (tyI D, 48, .inl (nf tM))), (w2, .inl (tyI D, 48, .inl (nf tN))), (w3, .inl (tyI D, 48, .inl (nf tS))), (w4, .inl (tyI D, 84, .inl hT)), (h0, .inr (5, [.ref h1, .ref h2, .ref h3, .int (nI (sv_nc s)), .ref h4, .ref h5, .int (sv_la s), .int (sv_st s), .int (sv_sw s), .int (sv_fl s), .int (sv_sk s), .int (sv_mu s)])), (h2, .inl (tyI D, 4, .inl (nf (sv_cc s)))), (h3, .inl (tyI D, 4, .inl (nf (sv_cr s)))), (h4, .inl (tyI D, 4, .inl (sv_se s)))]) rfl rfl rfl ?_
          refine g_if_eqB (tgt := 28) O dX0_wayFor_23 (by decide) (fun c_7 => ?_) (fun c_7 => ?_)
          ·
            refine g_iincN (L' := [(0, .ref c0), (1, .int (nI sd)), (2, .int (nI al)), (3, .int (nI (i_ + 1)))]) O dX0_wayFor_28 3 rfl (by decide) [1, 2, 3, 0] rfl ?_
            refine g_goto (tgt := 2) O dX0_wayFor_31 (by decide) ?_
            exact ih_ (i_ + 1) (by first | assumption | omega | rfl) (fun j hj => by rcases Nat.lt_succ_iff_lt_or_eq.mp hj with h | h; exact hno j h; subst h; simp_all) (by omega)
          ·
            refine g_iload_n O dX0_wayFor_26 3 rfl rfl ?_
            exact E 27 _ (nI i_) _ dX0_wayFor_27 (by rw [show wyO s (bpN sd al) = some i_ from fdB_some.mpr ⟨by omega, by simp_all, hno⟩]; exact ⟨rfl, rfl⟩)
  exact J2 _ 0 (Nat.zero_le _) (fun j hj => absurd hj (Nat.not_lt_zero _)) (Nat.lt_succ_self _)
set_option maxHeartbeats 2000000 in
set_option maxRecDepth 100000 in
/-- why a way does not sound -/
theorem kX0_reasonOf (l : Launch) (D : va_G) (z : Nat × Nat × Nat) (c0 : Nat) (c1 : Nat) (c2 : Nat) (pn : Nat) (w0 : Nat) (w1 : Nat) (w2 : Nat) (w3 : Nat) (w4 : Nat) (h0 : Nat) (h1 : Nat) (h2 : Nat) (h3 : Nat) (h4 : Nat) (h5 : Nat) (s : SV) (w : Nat) (sd : Nat) (al : Nat) (hnc : sv_nc s ≤ 4) (hcc : ∀ j, j < sv_nc s → sv_cc s j < 12 ∧ sv_cr s j < 12) (hw : w < 48) (hsd : sd < 4) (hal : al < 12) : CM l yX0_reasonOf wsX0_reasonOf ({ frames := 5, cells := 0, slots := 0, locals := 117 } : Room) D z [.ref c0, .int (nI w), .int (nI sd), .int (nI al)] [(c0, .inr (0, [.ref w0, .ref h0, .ref c1, .int (nI pn), .ref c2])), (w0, .inr (7, [.ref w1, .ref w2, .ref w3, .ref w4, .int (nI 48)])), (w1, .inl (tyI D, 48, .inl (nf tM))), (w2, .inl (tyI D, 48, .inl (nf tN))), (w3, .inl (tyI D, 48, .inl (nf tS))), (w4, .inl (tyI D, 84, .inl hT)), (h0, .inr (5, [.ref h1, .ref h2, .ref h3, .int (nI (sv_nc s)), .ref h4, .ref h5, .int (sv_la s), .int (sv_st s), .int (sv_sw s), .int (sv_fl s), .int (sv_sk s), .int (sv_mu s)])), (h2, .inl (tyI D, 4, .inl (nf (sv_cc s)))), (h3, .inl (tyI D, 4, .inl (nf (sv_cr s)))), (h4, .inl (tyI D, 4, .inl (sv_se s)))] (fun r_ w_ => r_ = some (.int (nI (rsN s w (bpN sd al)))) ∧ w_ = [(c0, .inr (0, [.ref w0, .ref h0, .ref c1, .int (nI pn), .ref c2])), (w0, .inr (7, [.ref w1, .ref w2, .ref w3, .ref w4, .int (nI 48)])), (w1, .inl (tyI D, 48, .inl (nf tM))), (w2, .inl (tyI D, 48, .inl (nf tN))), (w3, .inl (tyI D, 48, .inl (nf tS))), (w4, .inl (tyI D, 84, .inl hT)), (h0, .inr (5, [.ref h1, .ref h2, .ref h3, .int (nI (sv_nc s)), .ref h4, .ref h5, .int (sv_la s), .int (sv_st s), .int (sv_sw s), .int (sv_fl s), .int (sv_sk s), .int (sv_mu s)])), (h2, .inl (tyI D, 4, .inl (nf (sv_cc s)))), (h3, .inl (tyI D, 4, .inl (nf (sv_cr s)))), (h4, .inl (tyI D, 4, .inl (sv_se s)))]) 0 0 := by
  refine CM_int (own := RX0) (cc := cX0_reasonOf) (maxL := 4) (L0 := [(0, .ref c0), (1, .int (nI w)), (2, .int (nI sd)), (3, .int (nI al))]) (by decide) rfl rfl (Nat.le_of_ble_eq_true rfl) rfl (fun X O E => ?_)
  refine g_aload_n O dX0_reasonOf_0 0 rfl rfl ?_
  refine g_iload_n O dX0_reasonOf_1 1 rfl rfl ?_
  refine g_callV (As := [.int (nI w)]) (wr := []) O (kX0_clampsAllow l D z c0 c1 c2 pn w0 w1 w2 w3 w4 h0 h1 h2 h3 h4 h5 s w (by first | assumption | omega) (by first | assumption | omega) (by first | assumption | omega)) gX0_reasonOf_X0_clampsAllow rfl rfl rfl 1 (by decide +kernel) (by decide) (by decide) (q0 := 0) rfl rfl rfl [0, 1, 2, 3, 4, 5, 6, 7, 8, 9] [] rfl (by decide) rfl (by decide) (by decide) rfl rfl (Nat.le_of_ble_eq_true rfl) dX0_reasonOf_2 (fun r_1 w_2 hp => ?_)
  obtain ⟨rfl, rfl⟩ := hp
  refine g_eq (st' := [.int (bB (clB s w))]) (ws' := [(c0, .inr (0, [.ref w0, .ref h0, .ref c1, .int (nI pn), .ref c2])), (w0, .inr (7, [.ref w1, .ref w2, .ref w3, .ref w4, .int (nI 48)])), (w1, .inl (tyI D, 48, .inl (nf tM))), (w2, .inl (tyI D, 48, .inl (nf tN))), (w3, .inl (tyI D, 48, .inl (nf tS))), (w4, .inl (tyI D, 84, .inl hT)), (h0, .inr (5, [.ref h1, .ref h2, .ref h3, .int (nI (sv_nc s)), .ref h4, .ref h5, .int (sv_la s), .int (sv_st s), .int (sv_sw s), .int (sv_fl s), .int (sv_sk s), .int (sv_mu s)])), (h2, .inl (tyI D, 4, .inl (nf (sv_cc s)))), (h3, .inl (tyI D, 4, .inl (nf (sv_cr s)))), (h4, .inl (tyI D, 4, .inl (sv_se s)))]) rfl rfl rfl ?_
  refine g_if_neB (tgt := 10) O dX0_reasonOf_5 (by decide) (fun c_3 => ?_) (fun c_3 => ?_)
  ·
    refine g_aload_n O dX0_reasonOf_10 0 rfl rfl ?_
    refine g_iload_n O dX0_reasonOf_11 1 rfl rfl ?_
    refine g_iload_n O dX0_reasonOf_12 2 rfl rfl ?_
    refine g_iload_n O dX0_reasonOf_13 3 rfl rfl ?_
    refine g_callV (As := [.int (nI w), .int (nI sd), .int (nI al)]) (wr := [(h2, .inl (tyI D, 4, .inl (nf (sv_cc s)))), (h3, .inl (tyI D, 4, .inl (nf (sv_cr s))))]) O (kX0_bowAllows l D z c0 c1 c2 pn w0 w1 w2 w3 w4 h0 h1 h2 h3 h4 h5 s w sd al (by first | assumption | omega) (by first | assumption | omega) (by first | assumption | omega)) gX0_reasonOf_X0_bowAllows rfl rfl rfl 3 (by decide +kernel) (by decide) (by decide) (q0 := 0) rfl rfl rfl [0, 1, 2, 3, 4, 5, 6, 9] [7, 8] rfl (by decide) rfl (by decide) (by decide) rfl rfl (Nat.le_of_ble_eq_true rfl) dX0_reasonOf_14 (fun r_4 w_5 hp => ?_)
    obtain ⟨rfl, rfl⟩ := hp
    refine g_eq (st' := [.int (bB (bwB s w (bpN sd al)))]) (ws' := [(h2, .inl (tyI D, 4, .inl (nf (sv_cc s)))), (h3, .inl (tyI D, 4, .inl (nf (sv_cr s)))), (c0, .inr (0, [.ref w0, .ref h0, .ref c1, .int (nI pn), .ref c2])), (w0, .inr (7, [.ref w1, .ref w2, .ref w3, .ref w4, .int (nI 48)])), (w1, .inl (tyI D, 48, .inl (nf tM))), (w2, .inl (tyI D, 48, .inl (nf tN))), (w3, .inl (tyI D, 48, .inl (nf tS))), (w4, .inl (tyI D, 84, .inl hT)), (h0, .inr (5, [.ref h1, .ref h2, .ref h3, .int (nI (sv_nc s)), .ref h4, .ref h5, .int (sv_la s), .int (sv_st s), .int (sv_sw s), .int (sv_fl s), .int (sv_sk s), .int (sv_mu s)])), (h4, .inl (tyI D, 4, .inl (sv_se s)))]) rfl rfl rfl ?_
    refine g_if_neB (tgt := 22) O dX0_reasonOf_17 (by decide) (fun c_6 => ?_) (fun c_6 => ?_)
    ·
      refine g_aload_n O dX0_reasonOf_22 0 rfl rfl ?_
      refine g_iload_n O dX0_reasonOf_23 2 rfl rfl ?_
      refine g_iload_n O dX0_reasonOf_24 3 rfl rfl ?_
      refine g_callV (As := [.int (nI sd), .int (nI al)]) (wr := []) O (kX0_wayFor l D z c0 c1 c2 pn w0 w1 w2 w3 w4 h0 h1 h2 h3 h4 h5 s sd al (by first | assumption | omega) (by first | assumption | omega) (by first | assumption | omega) (by first | assumption | omega)) gX0_reasonOf_X0_wayFor rfl rfl rfl 2 (by decide +kernel) (by decide) (by decide) (q0 := 0) rfl rfl rfl [2, 3, 4, 5, 6, 7, 8, 0, 1, 9] [] rfl (by decide) rfl (by decide) (by decide) rfl rfl (Nat.le_of_ble_eq_true rfl) dX0_reasonOf_25 (fun r_7 w_8 hp => ?_)
      obtain ⟨rfl, rfl⟩ := hp
      refine g_eq (st' := [.int (orM (wyO s (bpN sd al)))]) (ws' := [(c0, .inr (0, [.ref w0, .ref h0, .ref c1, .int (nI pn), .ref c2])), (w0, .inr (7, [.ref w1, .ref w2, .ref w3, .ref w4, .int (nI 48)])), (w1, .inl (tyI D, 48, .inl (nf tM))), (w2, .inl (tyI D, 48, .inl (nf tN))), (w3, .inl (tyI D, 48, .inl (nf tS))), (w4, .inl (tyI D, 84, .inl hT)), (h0, .inr (5, [.ref h1, .ref h2, .ref h3, .int (nI (sv_nc s)), .ref h4, .ref h5, .int (sv_la s), .int (sv_st s), .int (sv_sw s), .int (sv_fl s), .int (sv_sk s), .int (sv_mu s)])), (h2, .inl (tyI D, 4, .inl (nf (sv_cc s)))), (h3, .inl (tyI D, 4, .inl (nf (sv_cr s)))), (h4, .inl (tyI D, 4, .inl (sv_se s)))]) rfl rfl rfl ?_
      refine g_iload_n O dX0_reasonOf_28 1 rfl rfl ?_
      refine g_icmp_ne (tgt := 36) O dX0_reasonOf_29 (by decide) (fun c_9 => ?_) (fun c_9 => ?_)
      ·
        have hrs : rsN s w (bpN sd al) = 3 := by simp only [rsN]; have h9 := fun h => c_9 ((orM_eq (fun k hk => Nat.lt_trans (wyO_lt hk) (by decide)) (by omega)).mpr h); simp_all
        refine g_iconst (x := (nI 3)) O dX0_reasonOf_36 (by decide +kernel) ?_
        exact E 37 _ (nI 3) _ dX0_reasonOf_37 (by rw [hrs]; exact ⟨rfl, rfl⟩)
      ·
        have hrs : rsN s w (bpN sd al) = 0 := by simp only [rsN]; have h9 := (orM_eq (fun k hk => Nat.lt_trans (wyO_lt hk) (by decide)) (by omega)).mp c_9; simp_all
        refine g_iconst (x := (nI 0)) O dX0_reasonOf_32 (by decide +kernel) ?_
        refine g_goto (tgt := 37) O dX0_reasonOf_33 (by decide) ?_
        exact E 37 _ (nI 0) _ dX0_reasonOf_37 (by rw [hrs]; exact ⟨rfl, rfl⟩)
    ·
      have hrs : rsN s w (bpN sd al) = 2 := by simp only [rsN]; simp_all
      refine g_iconst (x := (nI 2)) O dX0_reasonOf_20 (by decide +kernel) ?_
      refine g_perm (ws' := [(c0, .inr (0, [.ref w0, .ref h0, .ref c1, .int (nI pn), .ref c2])), (w0, .inr (7, [.ref w1, .ref w2, .ref w3, .ref w4, .int (nI 48)])), (w1, .inl (tyI D, 48, .inl (nf tM))), (w2, .inl (tyI D, 48, .inl (nf tN))), (w3, .inl (tyI D, 48, .inl (nf tS))), (w4, .inl (tyI D, 84, .inl hT)), (h0, .inr (5, [.ref h1, .ref h2, .ref h3, .int (nI (sv_nc s)), .ref h4, .ref h5, .int (sv_la s), .int (sv_st s), .int (sv_sw s), .int (sv_fl s), .int (sv_sk s), .int (sv_mu s)])), (h2, .inl (tyI D, 4, .inl (nf (sv_cc s)))), (h3, .inl (tyI D, 4, .inl (nf (sv_cr s)))), (h4, .inl (tyI D, 4, .inl (sv_se s)))]) [2, 3, 4, 5, 6, 7, 8, 0, 1, 9] rfl (by decide) ?_
      exact E 21 _ (nI 2) _ dX0_reasonOf_21 (by rw [hrs]; exact ⟨rfl, rfl⟩)
  ·
    have hrs : rsN s w (bpN sd al) = 1 := by simp only [rsN]; simp_all
    refine g_iconst (x := (nI 1)) O dX0_reasonOf_8 (by decide +kernel) ?_
    exact E 9 _ (nI 1) _ dX0_reasonOf_9 (by rw [hrs]; exact ⟨rfl, rfl⟩)
theorem hiX0_takesBow_X0 : ∀ w ∈ wsX00, w ∈ wsX0_takesBow := by decide +kernel
set_option maxHeartbeats 2000000 in
set_option maxRecDepth 100000 in
/-- a way takes the bows that are left -/
theorem kX0_takesBow (l : Launch) (D : va_G) (z : Nat × Nat × Nat) (c0 : Nat) (c1 : Nat) (c2 : Nat) (pn : Nat) (w0 : Nat) (w1 : Nat) (w2 : Nat) (w3 : Nat) (w4 : Nat) (h0 : Nat) (h1 : Nat) (h2 : Nat) (h3 : Nat) (h4 : Nat) (h5 : Nat) (s : SV) (w : Nat) (tk : Nat → Bool) (hw : w < 48) : CM l yX0_takesBow wsX0_takesBow ({ frames := 4, cells := 0, slots := 0, locals := 94 } : Room) D z [.ref c0, .int (nI w)] [(c0, .inr (0, [.ref w0, .ref h0, .ref c1, .int (nI pn), .ref c2])), (c2, .inl (tyZ D, 48, .inl (bf tk))), (w0, .inr (7, [.ref w1, .ref w2, .ref w3, .ref w4, .int (nI 48)])), (w1, .inl (tyI D, 48, .inl (nf tM))), (w2, .inl (tyI D, 48, .inl (nf tN))), (w3, .inl (tyI D, 48, .inl (nf tS))), (w4, .inl (tyI D, 84, .inl hT)), (h0, .inr (5, [.ref h1, .ref h2, .ref h3, .int (nI (sv_nc s)), .ref h4, .ref h5, .int (sv_la s), .int (sv_st s), .int (sv_sw s), .int (sv_fl s), .int (sv_sk s), .int (sv_mu s)])), (h4, .inl (tyI D, 4, .inl (sv_se s)))] (fun r_ w_ => r_ = some (.int (bB (tkT s w tk 48))) ∧ w_ = [(c0, .inr (0, [.ref w0, .ref h0, .ref c1, .int (nI pn), .ref c2])), (c2, .inl (tyZ D, 48, .inl (bf (tkB s w tk 48)))), (w0, .inr (7, [.ref w1, .ref w2, .ref w3, .ref w4, .int (nI 48)])), (w1, .inl (tyI D, 48, .inl (nf tM))), (w2, .inl (tyI D, 48, .inl (nf tN))), (w3, .inl (tyI D, 48, .inl (nf tS))), (w4, .inl (tyI D, 84, .inl hT)), (h0, .inr (5, [.ref h1, .ref h2, .ref h3, .int (nI (sv_nc s)), .ref h4, .ref h5, .int (sv_la s), .int (sv_st s), .int (sv_sw s), .int (sv_fl s), .int (sv_sk s), .int (sv_mu s)])), (h4, .inl (tyI D, 4, .inl (sv_se s)))]) 0 0 := by
  refine CM_bool (own := RX0) (cc := cX0_takesBow) (maxL := 4) (L0 := [(0, .ref c0), (1, .int (nI w))]) (by decide) rfl rfl (Nat.le_of_ble_eq_true rfl) rfl (fun X O E => ?_)
  refine g_iconst (x := (nI 0)) O dX0_takesBow_0 (by decide +kernel) ?_
  refine g_eq (st' := [.int (bB false)]) rfl rfl rfl ?_
  refine g_istore_n (L' := [(0, .ref c0), (1, .int (nI w)), (2, .int (bB false))]) O dX0_takesBow_1 rfl (by decide) [1, 2, 0] rfl ?_
  refine g_iconst (x := (nI 0)) O dX0_takesBow_2 (by decide +kernel) ?_
  refine g_istore_n (L' := [(0, .ref c0), (1, .int (nI w)), (2, .int (bB false)), (3, .int (nI 0))]) O dX0_takesBow_3 rfl (by decide) [1, 2, 3, 0] rfl ?_
  have J4 : ∀ (n_ : Nat), ∀ (i_ : Nat) (T_ : Bool) (F_ : Nat → Bool) (hi_ : i_ ≤ 48) (hTt : T_ = tkT s w tk i_) (hF : F_ = tkB s w tk i_), 48 - i_ < n_ → G X 0 0 4 [(0, .ref c0), (1, .int (nI w)), (2, .int (bB T_)), (3, .int (nI i_))] [] [(c0, .inr (0, [.ref w0, .ref h0, .ref c1, .int (nI pn), .ref c2])), (c2, .inl (tyZ D, 48, .inl (bf F_))), (w0, .inr (7, [.ref w1, .ref w2, .ref w3, .ref w4, .int (nI 48)])), (w1, .inl (tyI D, 48, .inl (nf tM))), (w2, .inl (tyI D, 48, .inl (nf tN))), (w3, .inl (tyI D, 48, .inl (nf tS))), (w4, .inl (tyI D, 84, .inl hT)), (h0, .inr (5, [.ref h1, .ref h2, .ref h3, .int (nI (sv_nc s)), .ref h4, .ref h5, .int (sv_la s), .int (sv_st s), .int (sv_sw s), .int (sv_fl s), .int (sv_sk s), .int (sv_mu s)])), (h4, .inl (tyI D, 4, .inl (sv_se s)))] := by
    intro n_
    induction n_ with
    | zero => intro i_ T_ F_ hi_ hTt hF hm_; exact absurd hm_ (Nat.not_lt_zero _)
    | succ n_ ih_ =>
      intro i_ T_ F_ hi_ hTt hF hm_
      refine g_iload_n O dX0_takesBow_4 3 rfl rfl ?_
      refine g_bipush (x := (nI 48)) O dX0_takesBow_5 (by decide +kernel) ?_
      refine g_icmp_geN (tgt := 50) O (by omega) (by omega) dX0_takesBow_7 (by decide) (fun c_1 => ?_) (fun c_1 => ?_)
      ·
        obtain rfl : i_ = 48 := by omega
        refine g_iload_n O dX0_takesBow_50 2 rfl rfl ?_
        exact E 51 _ T_ _ dX0_takesBow_51 (by rw [hTt, hF]; exact ⟨rfl, rfl⟩)
      ·
        refine g_aload_n O dX0_takesBow_10 0 rfl rfl ?_
        refine g_get O hiX0_takesBow_X0 0 rfl rfl 4 (by decide) (by decide +kernel) rfl dX0_takesBow_11 ?_
        refine g_iload_n O dX0_takesBow_14 3 rfl rfl ?_
        refine g_zaldN O 1 rfl (by omega) (by omega) dX0_takesBow_15 ?_
        refine g_if_neB (tgt := 44) O dX0_takesBow_16 (by decide) (fun c_2 => ?_) (fun c_2 => ?_)
        ·
          refine g_iincN (L' := [(0, .ref c0), (1, .int (nI w)), (2, .int (bB T_)), (3, .int (nI (i_ + 1)))]) O dX0_takesBow_44 3 rfl (by decide) [1, 2, 3, 0] rfl ?_
          refine g_goto (tgt := 4) O dX0_takesBow_47 (by decide) ?_
          exact ih_ (i_ + 1) _ _ (by first | assumption | omega | rfl) (by simp only [tkT]; simp_all) (by simp only [tkB]; simp_all) (by omega)
        ·
          refine g_aload_n O dX0_takesBow_19 0 rfl rfl ?_
          refine g_iload_n O dX0_takesBow_20 1 rfl rfl ?_
          refine g_iload_n O dX0_takesBow_21 3 rfl rfl ?_
          refine g_bipush (x := (nI 12)) O dX0_takesBow_22 (by decide +kernel) ?_
          refine g_idivN O (by omega) (by omega) (by omega) dX0_takesBow_24 ?_
          refine g_iload_n O dX0_takesBow_25 3 rfl rfl ?_
          refine g_bipush (x := (nI 12)) O dX0_takesBow_26 (by decide +kernel) ?_
          refine g_iremN O (by omega) (by omega) (by omega) dX0_takesBow_28 ?_
          refine g_callV (As := [.int (nI w), .int (nI (i_ / 12)), .int (nI (i_ % 12))]) (wr := [(c2, .inl (tyZ D, 48, .inl (bf F_)))]) O (kX0_bowAllows l D z c0 c1 c2 pn w0 w1 w2 w3 w4 h0 h1 h2 h3 h4 h5 s w (i_ / 12) (i_ % 12) (by first | assumption | omega) (by first | assumption | omega) (by first | assumption | omega)) gX0_takesBow_X0_bowAllows rfl rfl rfl 3 (by decide +kernel) (by decide) (by decide) (q0 := 0) rfl rfl rfl [0, 2, 3, 4, 5, 6, 7, 8] [1] rfl (by decide) rfl (by decide) (by decide) rfl rfl (Nat.le_of_ble_eq_true rfl) dX0_takesBow_29 (fun r_3 w_4 hp => ?_)
          obtain ⟨rfl, rfl⟩ := hp
          refine g_eq (st' := [.int (bB (bwB s w (bpN (i_ / 12) (i_ % 12))))]) (ws' := [(c2, .inl (tyZ D, 48, .inl (bf F_))), (c0, .inr (0, [.ref w0, .ref h0, .ref c1, .int (nI pn), .ref c2])), (w0, .inr (7, [.ref w1, .ref w2, .ref w3, .ref w4, .int (nI 48)])), (w1, .inl (tyI D, 48, .inl (nf tM))), (w2, .inl (tyI D, 48, .inl (nf tN))), (w3, .inl (tyI D, 48, .inl (nf tS))), (w4, .inl (tyI D, 84, .inl hT)), (h0, .inr (5, [.ref h1, .ref h2, .ref h3, .int (nI (sv_nc s)), .ref h4, .ref h5, .int (sv_la s), .int (sv_st s), .int (sv_sw s), .int (sv_fl s), .int (sv_sk s), .int (sv_mu s)])), (h4, .inl (tyI D, 4, .inl (sv_se s)))]) rfl rfl rfl ?_
          refine g_if_eqB (tgt := 44) O dX0_takesBow_32 (by decide) (fun c_5 => ?_) (fun c_5 => ?_)
          ·
            refine g_iincN (L' := [(0, .ref c0), (1, .int (nI w)), (2, .int (bB T_)), (3, .int (nI (i_ + 1)))]) O dX0_takesBow_44 3 rfl (by decide) [1, 2, 3, 0] rfl ?_
            refine g_goto (tgt := 4) O dX0_takesBow_47 (by decide) ?_
            refine g_perm (ws' := [(c0, .inr (0, [.ref w0, .ref h0, .ref c1, .int (nI pn), .ref c2])), (c2, .inl (tyZ D, 48, .inl (bf F_))), (w0, .inr (7, [.ref w1, .ref w2, .ref w3, .ref w4, .int (nI 48)])), (w1, .inl (tyI D, 48, .inl (nf tM))), (w2, .inl (tyI D, 48, .inl (nf tN))), (w3, .inl (tyI D, 48, .inl (nf tS))), (w4, .inl (tyI D, 84, .inl hT)), (h0, .inr (5, [.ref h1, .ref h2, .ref h3, .int (nI (sv_nc s)), .ref h4, .ref h5, .int (sv_la s), .int (sv_st s), .int (sv_sw s), .int (sv_fl s), .int (sv_sk s), .int (sv_mu s)])), (h4, .inl (tyI D, 4, .inl (sv_se s)))]) [1, 0, 2, 3, 4, 5, 6, 7, 8] rfl (by decide) ?_
            exact ih_ (i_ + 1) _ _ (by first | assumption | omega | rfl) (by simp only [tkT]; simp_all) (by simp only [tkB]; simp_all) (by omega)
          ·
            refine g_aload_n O dX0_takesBow_35 0 rfl rfl ?_
            refine g_get O hiX0_takesBow_X0 1 rfl rfl 4 (by decide) (by decide +kernel) rfl dX0_takesBow_36 ?_
            refine g_iload_n O dX0_takesBow_39 3 rfl rfl ?_
            refine g_iconst (x := (nI 1)) O dX0_takesBow_40 (by decide +kernel) ?_
            refine g_zastN (f' := (bf (upf F_ i_ true))) (ws' := [(c2, .inl (tyZ D, 48, .inl (bf (upf F_ i_ true)))), (c0, .inr (0, [.ref w0, .ref h0, .ref c1, .int (nI pn), .ref c2])), (w0, .inr (7, [.ref w1, .ref w2, .ref w3, .ref w4, .int (nI 48)])), (w1, .inl (tyI D, 48, .inl (nf tM))), (w2, .inl (tyI D, 48, .inl (nf tN))), (w3, .inl (tyI D, 48, .inl (nf tS))), (w4, .inl (tyI D, 84, .inl hT)), (h0, .inr (5, [.ref h1, .ref h2, .ref h3, .int (nI (sv_nc s)), .ref h4, .ref h5, .int (sv_la s), .int (sv_st s), .int (sv_sw s), .int (sv_fl s), .int (sv_sk s), .int (sv_mu s)])), (h4, .inl (tyI D, 4, .inl (sv_se s)))]) O 0 rfl (by omega) (by omega) dX0_takesBow_41 (bf_updT _ _) rfl ?_
            refine g_iconst (x := (nI 1)) O dX0_takesBow_42 (by decide +kernel) ?_
            refine g_eq (st' := [.int (bB true)]) rfl rfl rfl ?_
            refine g_istore_n (L' := [(0, .ref c0), (1, .int (nI w)), (2, .int (bB true)), (3, .int (nI i_))]) O dX0_takesBow_43 rfl (by decide) [1, 2, 0, 3] rfl ?_
            refine g_iincN (L' := [(0, .ref c0), (1, .int (nI w)), (2, .int (bB true)), (3, .int (nI (i_ + 1)))]) O dX0_takesBow_44 3 rfl (by decide) [1, 2, 3, 0] rfl ?_
            refine g_goto (tgt := 4) O dX0_takesBow_47 (by decide) ?_
            refine g_perm (ws' := [(c0, .inr (0, [.ref w0, .ref h0, .ref c1, .int (nI pn), .ref c2])), (c2, .inl (tyZ D, 48, .inl (bf (upf F_ i_ true)))), (w0, .inr (7, [.ref w1, .ref w2, .ref w3, .ref w4, .int (nI 48)])), (w1, .inl (tyI D, 48, .inl (nf tM))), (w2, .inl (tyI D, 48, .inl (nf tN))), (w3, .inl (tyI D, 48, .inl (nf tS))), (w4, .inl (tyI D, 84, .inl hT)), (h0, .inr (5, [.ref h1, .ref h2, .ref h3, .int (nI (sv_nc s)), .ref h4, .ref h5, .int (sv_la s), .int (sv_st s), .int (sv_sw s), .int (sv_fl s), .int (sv_sk s), .int (sv_mu s)])), (h4, .inl (tyI D, 4, .inl (sv_se s)))]) [1, 0, 2, 3, 4, 5, 6, 7, 8] rfl (by decide) ?_
            exact ih_ (i_ + 1) _ _ (by first | assumption | omega | rfl) (by simp only [tkT]; simp_all) (by simp only [tkB]; simp_all) (by omega)
  exact J4 _ 0 false tk (Nat.zero_le _) (rfl) (rfl) (Nat.lt_succ_self _)
theorem hiX0_findPossible_X0 : ∀ w ∈ wsX00, w ∈ wsX0_findPossible := by decide +kernel
set_option maxHeartbeats 2000000 in
set_option maxRecDepth 100000 in
/-- the ways that are possible -/
theorem kX0_findPossible (l : Launch) (D : va_G) (z : Nat × Nat × Nat) (c0 : Nat) (c1 : Nat) (c2 : Nat) (pn : Nat) (w0 : Nat) (w1 : Nat) (w2 : Nat) (w3 : Nat) (w4 : Nat) (h0 : Nat) (h1 : Nat) (h2 : Nat) (h3 : Nat) (h4 : Nat) (h5 : Nat) (s : SV) (pf : Nat → Nat) (tk : Nat → Bool) (hnc : sv_nc s ≤ 4) (hcc : ∀ j, j < sv_nc s → sv_cc s j < 12 ∧ sv_cr s j < 12) : CM l yX0_findPossible wsX0_findPossible ({ frames := 5, cells := 0, slots := 0, locals := 117 } : Room) D z [.ref c0] [(c0, .inr (0, [.ref w0, .ref h0, .ref c1, .int (nI pn), .ref c2])), (c1, .inl (tyI D, 48, .inl (nf pf))), (c2, .inl (tyZ D, 48, .inl (bf tk))), (w0, .inr (7, [.ref w1, .ref w2, .ref w3, .ref w4, .int (nI 48)])), (w1, .inl (tyI D, 48, .inl (nf tM))), (w2, .inl (tyI D, 48, .inl (nf tN))), (w3, .inl (tyI D, 48, .inl (nf tS))), (w4, .inl (tyI D, 84, .inl hT)), (h0, .inr (5, [.ref h1, .ref h2, .ref h3, .int (nI (sv_nc s)), .ref h4, .ref h5, .int (sv_la s), .int (sv_st s), .int (sv_sw s), .int (sv_fl s), .int (sv_sk s), .int (sv_mu s)])), (h2, .inl (tyI D, 4, .inl (nf (sv_cc s)))), (h3, .inl (tyI D, 4, .inl (nf (sv_cr s)))), (h4, .inl (tyI D, 4, .inl (sv_se s)))] (fun r_ w_ => r_ = none ∧ w_ = [(c0, .inr (0, [.ref w0, .ref h0, .ref c1, .int (nI (cntB (fpP s) 48)), .ref c2])), (c1, .inl (tyI D, 48, .inl (nf (fpF s pf 48)))), (c2, .inl (tyZ D, 48, .inl (bf (fpK s 48)))), (w0, .inr (7, [.ref w1, .ref w2, .ref w3, .ref w4, .int (nI 48)])), (w1, .inl (tyI D, 48, .inl (nf tM))), (w2, .inl (tyI D, 48, .inl (nf tN))), (w3, .inl (tyI D, 48, .inl (nf tS))), (w4, .inl (tyI D, 84, .inl hT)), (h0, .inr (5, [.ref h1, .ref h2, .ref h3, .int (nI (sv_nc s)), .ref h4, .ref h5, .int (sv_la s), .int (sv_st s), .int (sv_sw s), .int (sv_fl s), .int (sv_sk s), .int (sv_mu s)])), (h2, .inl (tyI D, 4, .inl (nf (sv_cc s)))), (h3, .inl (tyI D, 4, .inl (nf (sv_cr s)))), (h4, .inl (tyI D, 4, .inl (sv_se s)))]) 0 0 := by
  refine CM_void (own := RX0) (cc := cX0_findPossible) (maxL := 2) (L0 := [(0, .ref c0)]) (by decide) rfl rfl (Nat.le_of_ble_eq_true rfl) rfl (fun X O E => ?_)
  refine g_iconst (x := (nI 0)) O dX0_findPossible_0 (by decide +kernel) ?_
  refine g_istore_n (L' := [(0, .ref c0), (1, .int (nI 0))]) O dX0_findPossible_1 rfl (by decide) [1, 0] rfl ?_
  have J2 : ∀ (n_ : Nat), ∀ (i_ : Nat) (F_ : Nat → Bool) (hi_ : i_ ≤ 48) (hF : ∀ j, j < i_ → F_ j = false), 48 - i_ < n_ → G X 0 0 2 [(0, .ref c0), (1, .int (nI i_))] [] [(c0, .inr (0, [.ref w0, .ref h0, .ref c1, .int (nI pn), .ref c2])), (c1, .inl (tyI D, 48, .inl (nf pf))), (c2, .inl (tyZ D, 48, .inl (bf F_))), (w0, .inr (7, [.ref w1, .ref w2, .ref w3, .ref w4, .int (nI 48)])), (w1, .inl (tyI D, 48, .inl (nf tM))), (w2, .inl (tyI D, 48, .inl (nf tN))), (w3, .inl (tyI D, 48, .inl (nf tS))), (w4, .inl (tyI D, 84, .inl hT)), (h0, .inr (5, [.ref h1, .ref h2, .ref h3, .int (nI (sv_nc s)), .ref h4, .ref h5, .int (sv_la s), .int (sv_st s), .int (sv_sw s), .int (sv_fl s), .int (sv_sk s), .int (sv_mu s)])), (h2, .inl (tyI D, 4, .inl (nf (sv_cc s)))), (h3, .inl (tyI D, 4, .inl (nf (sv_cr s)))), (h4, .inl (tyI D, 4, .inl (sv_se s)))] := by
    intro n_
    induction n_ with
    | zero => intro i_ F_ hi_ hF hm_; exact absurd hm_ (Nat.not_lt_zero _)
    | succ n_ ih_ =>
      intro i_ F_ hi_ hF hm_
      refine g_iload_n O dX0_findPossible_2 1 rfl rfl ?_
      refine g_bipush (x := (nI 48)) O dX0_findPossible_3 (by decide +kernel) ?_
      refine g_icmp_geN (tgt := 21) O (by omega) (by omega) dX0_findPossible_5 (by decide) (fun c_1 => ?_) (fun c_1 => ?_)
      ·
        refine g_arr (f' := bf (fun _ => false)) (ws' := [(c0, .inr (0, [.ref w0, .ref h0, .ref c1, .int (nI pn), .ref c2])), (c1, .inl (tyI D, 48, .inl (nf pf))), (c2, .inl (tyZ D, 48, .inl (bf (fun _ => false)))), (w0, .inr (7, [.ref w1, .ref w2, .ref w3, .ref w4, .int (nI 48)])), (w1, .inl (tyI D, 48, .inl (nf tM))), (w2, .inl (tyI D, 48, .inl (nf tN))), (w3, .inl (tyI D, 48, .inl (nf tS))), (w4, .inl (tyI D, 84, .inl hT)), (h0, .inr (5, [.ref h1, .ref h2, .ref h3, .int (nI (sv_nc s)), .ref h4, .ref h5, .int (sv_la s), .int (sv_st s), .int (sv_sw s), .int (sv_fl s), .int (sv_sk s), .int (sv_mu s)])), (h2, .inl (tyI D, 4, .inl (nf (sv_cc s)))), (h3, .inl (tyI D, 4, .inl (nf (sv_cr s)))), (h4, .inl (tyI D, 4, .inl (sv_se s)))]) 2 rfl (fun j hj => by show bB (F_ j) = bB false; rw [hF j (by omega)]) rfl ?_
        refine g_aload_n O dX0_findPossible_21 0 rfl rfl ?_
        refine g_iconst (x := (nI 0)) O dX0_findPossible_22 (by decide +kernel) ?_
        refine g_put (ws' := [(c0, .inr (0, [.ref w0, .ref h0, .ref c1, .int (nI 0), .ref c2])), (c1, .inl (tyI D, 48, .inl (nf pf))), (c2, .inl (tyZ D, 48, .inl (bf (fun _ => false)))), (w0, .inr (7, [.ref w1, .ref w2, .ref w3, .ref w4, .int (nI 48)])), (w1, .inl (tyI D, 48, .inl (nf tM))), (w2, .inl (tyI D, 48, .inl (nf tN))), (w3, .inl (tyI D, 48, .inl (nf tS))), (w4, .inl (tyI D, 84, .inl hT)), (h0, .inr (5, [.ref h1, .ref h2, .ref h3, .int (nI (sv_nc s)), .ref h4, .ref h5, .int (sv_la s), .int (sv_st s), .int (sv_sw s), .int (sv_fl s), .int (sv_sk s), .int (sv_mu s)])), (h2, .inl (tyI D, 4, .inl (nf (sv_cc s)))), (h3, .inl (tyI D, 4, .inl (nf (sv_cr s)))), (h4, .inl (tyI D, 4, .inl (sv_se s)))]) O hiX0_findPossible_X0 tyX0 tyX0_ok nmX0 0 rfl rfl 3 (by decide) (by decide +kernel) rfl (tyX0_ok 3 (by decide)) rfl rfl (Nat.le_of_ble_eq_true rfl) dX0_findPossible_23 rfl ?_
        refine g_iconst (x := (nI 0)) O dX0_findPossible_26 (by decide +kernel) ?_
        refine g_istore_n (L' := [(0, .ref c0), (1, .int (nI 0))]) O dX0_findPossible_27 rfl (by decide) [1, 0] rfl ?_
        have J28 : ∀ (n_ : Nat), ∀ (i_ : Nat) (k_ : Nat) (F_ : Nat → Bool) (P_ : Nat → Nat) (hi_ : i_ ≤ 48) (hk : k_ = cntB (fpP s) i_) (hF : F_ = fpK s i_) (hP : P_ = fpF s pf i_), 48 - i_ < n_ → G X 0 0 28 [(0, .ref c0), (1, .int (nI i_))] [] [(c0, .inr (0, [.ref w0, .ref h0, .ref c1, .int (nI k_), .ref c2])), (c1, .inl (tyI D, 48, .inl (nf P_))), (c2, .inl (tyZ D, 48, .inl (bf F_))), (w0, .inr (7, [.ref w1, .ref w2, .ref w3, .ref w4, .int (nI 48)])), (w1, .inl (tyI D, 48, .inl (nf tM))), (w2, .inl (tyI D, 48, .inl (nf tN))), (w3, .inl (tyI D, 48, .inl (nf tS))), (w4, .inl (tyI D, 84, .inl hT)), (h0, .inr (5, [.ref h1, .ref h2, .ref h3, .int (nI (sv_nc s)), .ref h4, .ref h5, .int (sv_la s), .int (sv_st s), .int (sv_sw s), .int (sv_fl s), .int (sv_sk s), .int (sv_mu s)])), (h2, .inl (tyI D, 4, .inl (nf (sv_cc s)))), (h3, .inl (tyI D, 4, .inl (nf (sv_cr s)))), (h4, .inl (tyI D, 4, .inl (sv_se s)))] := by
          intro n_
          induction n_ with
          | zero => intro i_ k_ F_ P_ hi_ hk hF hP hm_; exact absurd hm_ (Nat.not_lt_zero _)
          | succ n_ ih_ =>
            intro i_ k_ F_ P_ hi_ hk hF hP hm_
            have hkl := cntB_le (fpP s) i_
            refine g_iload_n O dX0_findPossible_28 1 rfl rfl ?_
            refine g_bipush (x := (nI 48)) O dX0_findPossible_29 (by decide +kernel) ?_
            refine g_icmp_geN (tgt := 85) O (by omega) (by omega) dX0_findPossible_31 (by decide) (fun c_2 => ?_) (fun c_2 => ?_)
            ·
              obtain rfl : i_ = 48 := by omega
              exact E 85 _ _ dX0_findPossible_85 (by rw [hk, hF, hP]; exact ⟨rfl, rfl⟩)
            ·
              refine g_aload_n O dX0_findPossible_34 0 rfl rfl ?_
              refine g_iload_n O dX0_findPossible_35 1 rfl rfl ?_
              refine g_callV (As := [.int (nI i_)]) (wr := [(c1, .inl (tyI D, 48, .inl (nf P_))), (c2, .inl (tyZ D, 48, .inl (bf F_)))]) O (kX0_clampsAllow l D z c0 c1 c2 k_ w0 w1 w2 w3 w4 h0 h1 h2 h3 h4 h5 s i_ (by first | assumption | omega) (by first | assumption | omega) (by first | assumption | omega)) gX0_findPossible_X0_clampsAllow rfl rfl rfl 1 (by decide +kernel) (by decide) (by decide) (q0 := 0) rfl rfl rfl [0, 3, 4, 5, 6, 7, 8, 9, 10, 11] [1, 2] rfl (by decide) rfl (by decide) (by decide) rfl rfl (Nat.le_of_ble_eq_true rfl) dX0_findPossible_36 (fun r_3 w_4 hp => ?_)
              obtain ⟨rfl, rfl⟩ := hp
              refine g_eq (st' := [.int (bB (clB s i_))]) (ws' := [(c1, .inl (tyI D, 48, .inl (nf P_))), (c2, .inl (tyZ D, 48, .inl (bf F_))), (c0, .inr (0, [.ref w0, .ref h0, .ref c1, .int (nI k_), .ref c2])), (w0, .inr (7, [.ref w1, .ref w2, .ref w3, .ref w4, .int (nI 48)])), (w1, .inl (tyI D, 48, .inl (nf tM))), (w2, .inl (tyI D, 48, .inl (nf tN))), (w3, .inl (tyI D, 48, .inl (nf tS))), (w4, .inl (tyI D, 84, .inl hT)), (h0, .inr (5, [.ref h1, .ref h2, .ref h3, .int (nI (sv_nc s)), .ref h4, .ref h5, .int (sv_la s), .int (sv_st s), .int (sv_sw s), .int (sv_fl s), .int (sv_sk s), .int (sv_mu s)])), (h2, .inl (tyI D, 4, .inl (nf (sv_cc s)))), (h3, .inl (tyI D, 4, .inl (nf (sv_cr s)))), (h4, .inl (tyI D, 4, .inl (sv_se s)))]) rfl rfl rfl ?_
              refine g_if_eqB (tgt := 79) O dX0_findPossible_39 (by decide) (fun c_5 => ?_) (fun c_5 => ?_)
              ·
                have hq : fpP s i_ = false := by simp only [fpP]; simp_all
                refine g_iincN (L' := [(0, .ref c0), (1, .int (nI (i_ + 1)))]) O dX0_findPossible_79 1 rfl (by decide) [1, 0] rfl ?_
                refine g_goto (tgt := 28) O dX0_findPossible_82 (by decide) ?_
                refine g_perm (ws' := [(c0, .inr (0, [.ref w0, .ref h0, .ref c1, .int (nI k_), .ref c2])), (c1, .inl (tyI D, 48, .inl (nf P_))), (c2, .inl (tyZ D, 48, .inl (bf F_))), (w0, .inr (7, [.ref w1, .ref w2, .ref w3, .ref w4, .int (nI 48)])), (w1, .inl (tyI D, 48, .inl (nf tM))), (w2, .inl (tyI D, 48, .inl (nf tN))), (w3, .inl (tyI D, 48, .inl (nf tS))), (w4, .inl (tyI D, 84, .inl hT)), (h0, .inr (5, [.ref h1, .ref h2, .ref h3, .int (nI (sv_nc s)), .ref h4, .ref h5, .int (sv_la s), .int (sv_st s), .int (sv_sw s), .int (sv_fl s), .int (sv_sk s), .int (sv_mu s)])), (h2, .inl (tyI D, 4, .inl (nf (sv_cc s)))), (h3, .inl (tyI D, 4, .inl (nf (sv_cr s)))), (h4, .inl (tyI D, 4, .inl (sv_se s)))]) [2, 0, 1, 3, 4, 5, 6, 7, 8, 9, 10, 11] rfl (by decide) ?_
                exact ih_ (i_ + 1) _ _ _ (by first | assumption | omega | rfl) (by rw [hk]; first | exact (cntB_t hq).symm | exact (cntB_f hq).symm) (by simp only [fpK]; simp_all) (by rw [hP]; simp only [fpF]; first | exact (by rw [if_pos hq, hk]) | exact (by rw [if_neg (by rw [hq]; decide)])) (by omega)
              ·
                refine g_aload_n O dX0_findPossible_42 0 rfl rfl ?_
                refine g_iload_n O dX0_findPossible_43 1 rfl rfl ?_
                refine g_callV (As := [.int (nI i_)]) (wr := [(c1, .inl (tyI D, 48, .inl (nf P_))), (h2, .inl (tyI D, 4, .inl (nf (sv_cc s)))), (h3, .inl (tyI D, 4, .inl (nf (sv_cr s))))]) O (kX0_takesBow l D z c0 c1 c2 k_ w0 w1 w2 w3 w4 h0 h1 h2 h3 h4 h5 s i_ F_ (by first | assumption | omega)) gX0_findPossible_X0_takesBow rfl rfl rfl 1 (by decide +kernel) (by decide) (by decide) (q0 := 0) rfl rfl rfl [2, 1, 3, 4, 5, 6, 7, 8, 11] [0, 9, 10] rfl (by decide) rfl (by decide) (by decide) rfl rfl (Nat.le_of_ble_eq_true rfl) dX0_findPossible_44 (fun r_6 w_7 hp => ?_)
                obtain ⟨rfl, rfl⟩ := hp
                refine g_eq (st' := [.int (bB (tkT s i_ F_ 48))]) (ws' := [(c1, .inl (tyI D, 48, .inl (nf P_))), (h2, .inl (tyI D, 4, .inl (nf (sv_cc s)))), (h3, .inl (tyI D, 4, .inl (nf (sv_cr s)))), (c0, .inr (0, [.ref w0, .ref h0, .ref c1, .int (nI k_), .ref c2])), (c2, .inl (tyZ D, 48, .inl (bf (tkB s i_ F_ 48)))), (w0, .inr (7, [.ref w1, .ref w2, .ref w3, .ref w4, .int (nI 48)])), (w1, .inl (tyI D, 48, .inl (nf tM))), (w2, .inl (tyI D, 48, .inl (nf tN))), (w3, .inl (tyI D, 48, .inl (nf tS))), (w4, .inl (tyI D, 84, .inl hT)), (h0, .inr (5, [.ref h1, .ref h2, .ref h3, .int (nI (sv_nc s)), .ref h4, .ref h5, .int (sv_la s), .int (sv_st s), .int (sv_sw s), .int (sv_fl s), .int (sv_sk s), .int (sv_mu s)])), (h4, .inl (tyI D, 4, .inl (sv_se s)))]) rfl rfl rfl ?_
                refine g_if_eqB (tgt := 79) O dX0_findPossible_47 (by decide) (fun c_8 => ?_) (fun c_8 => ?_)
                ·
                  have hq : fpP s i_ = false := by simp only [fpP]; simp_all
                  refine g_iincN (L' := [(0, .ref c0), (1, .int (nI (i_ + 1)))]) O dX0_findPossible_79 1 rfl (by decide) [1, 0] rfl ?_
                  refine g_goto (tgt := 28) O dX0_findPossible_82 (by decide) ?_
                  refine g_perm (ws' := [(c0, .inr (0, [.ref w0, .ref h0, .ref c1, .int (nI k_), .ref c2])), (c1, .inl (tyI D, 48, .inl (nf P_))), (c2, .inl (tyZ D, 48, .inl (bf (tkB s i_ F_ 48)))), (w0, .inr (7, [.ref w1, .ref w2, .ref w3, .ref w4, .int (nI 48)])), (w1, .inl (tyI D, 48, .inl (nf tM))), (w2, .inl (tyI D, 48, .inl (nf tN))), (w3, .inl (tyI D, 48, .inl (nf tS))), (w4, .inl (tyI D, 84, .inl hT)), (h0, .inr (5, [.ref h1, .ref h2, .ref h3, .int (nI (sv_nc s)), .ref h4, .ref h5, .int (sv_la s), .int (sv_st s), .int (sv_sw s), .int (sv_fl s), .int (sv_sk s), .int (sv_mu s)])), (h2, .inl (tyI D, 4, .inl (nf (sv_cc s)))), (h3, .inl (tyI D, 4, .inl (nf (sv_cr s)))), (h4, .inl (tyI D, 4, .inl (sv_se s)))]) [3, 0, 4, 5, 6, 7, 8, 9, 10, 1, 2, 11] rfl (by decide) ?_
                  exact ih_ (i_ + 1) _ _ _ (by first | assumption | omega | rfl) (by rw [hk]; first | exact (cntB_t hq).symm | exact (cntB_f hq).symm) (by simp only [fpK]; simp_all) (by rw [hP]; simp only [fpF]; first | exact (by rw [if_pos hq, hk]) | exact (by rw [if_neg (by rw [hq]; decide)])) (by omega)
                ·
                  have hq : fpP s i_ = true := by simp only [fpP]; simp_all
                  refine g_aload_n O dX0_findPossible_50 0 rfl rfl ?_
                  refine g_get O hiX0_findPossible_X0 3 rfl rfl 3 (by decide) (by decide +kernel) rfl dX0_findPossible_51 ?_
                  refine g_bipush (x := (nI 48)) O dX0_findPossible_54 (by decide +kernel) ?_
                  refine g_icmp_geN (tgt := 79) O (by omega) (by omega) dX0_findPossible_56 (by decide) (fun c_9 => (by exfalso; omega)) (fun c_9 => ?_)
                  refine g_aload_n O dX0_findPossible_59 0 rfl rfl ?_
                  refine g_get O hiX0_findPossible_X0 3 rfl rfl 2 (by decide) (by decide +kernel) rfl dX0_findPossible_60 ?_
                  refine g_aload_n O dX0_findPossible_63 0 rfl rfl ?_
                  refine g_get O hiX0_findPossible_X0 3 rfl rfl 3 (by decide) (by decide +kernel) rfl dX0_findPossible_64 ?_
                  refine g_iload_n O dX0_findPossible_67 1 rfl rfl ?_
                  refine g_iastN (f' := (nf (upf P_ k_ i_))) (ws' := [(c1, .inl (tyI D, 48, .inl (nf (upf P_ k_ i_)))), (h2, .inl (tyI D, 4, .inl (nf (sv_cc s)))), (h3, .inl (tyI D, 4, .inl (nf (sv_cr s)))), (c0, .inr (0, [.ref w0, .ref h0, .ref c1, .int (nI k_), .ref c2])), (c2, .inl (tyZ D, 48, .inl (bf (tkB s i_ F_ 48)))), (w0, .inr (7, [.ref w1, .ref w2, .ref w3, .ref w4, .int (nI 48)])), (w1, .inl (tyI D, 48, .inl (nf tM))), (w2, .inl (tyI D, 48, .inl (nf tN))), (w3, .inl (tyI D, 48, .inl (nf tS))), (w4, .inl (tyI D, 84, .inl hT)), (h0, .inr (5, [.ref h1, .ref h2, .ref h3, .int (nI (sv_nc s)), .ref h4, .ref h5, .int (sv_la s), .int (sv_st s), .int (sv_sw s), .int (sv_fl s), .int (sv_sk s), .int (sv_mu s)])), (h4, .inl (tyI D, 4, .inl (sv_se s)))]) O 0 rfl (by omega) (by omega) dX0_findPossible_68 (nf_upd _ _ _) rfl ?_
                  refine g_aload_n O dX0_findPossible_69 0 rfl rfl ?_
                  refine g_dup O dX0_findPossible_70 rfl ?_
                  refine g_get O hiX0_findPossible_X0 3 rfl rfl 3 (by decide) (by decide +kernel) rfl dX0_findPossible_71 ?_
                  refine g_iconst (x := (nI 1)) O dX0_findPossible_74 (by decide +kernel) ?_
                  refine g_iaddN O dX0_findPossible_75 ?_
                  refine g_put (ws' := [(c1, .inl (tyI D, 48, .inl (nf (upf P_ k_ i_)))), (h2, .inl (tyI D, 4, .inl (nf (sv_cc s)))), (h3, .inl (tyI D, 4, .inl (nf (sv_cr s)))), (c0, .inr (0, [.ref w0, .ref h0, .ref c1, .int (nI (k_ + 1)), .ref c2])), (c2, .inl (tyZ D, 48, .inl (bf (tkB s i_ F_ 48)))), (w0, .inr (7, [.ref w1, .ref w2, .ref w3, .ref w4, .int (nI 48)])), (w1, .inl (tyI D, 48, .inl (nf tM))), (w2, .inl (tyI D, 48, .inl (nf tN))), (w3, .inl (tyI D, 48, .inl (nf tS))), (w4, .inl (tyI D, 84, .inl hT)), (h0, .inr (5, [.ref h1, .ref h2, .ref h3, .int (nI (sv_nc s)), .ref h4, .ref h5, .int (sv_la s), .int (sv_st s), .int (sv_sw s), .int (sv_fl s), .int (sv_sk s), .int (sv_mu s)])), (h4, .inl (tyI D, 4, .inl (sv_se s)))]) O hiX0_findPossible_X0 tyX0 tyX0_ok nmX0 3 rfl rfl 3 (by decide) (by decide +kernel) rfl (tyX0_ok 3 (by decide)) rfl rfl (Nat.le_of_ble_eq_true rfl) dX0_findPossible_76 rfl ?_
                  refine g_iincN (L' := [(0, .ref c0), (1, .int (nI (i_ + 1)))]) O dX0_findPossible_79 1 rfl (by decide) [1, 0] rfl ?_
                  refine g_goto (tgt := 28) O dX0_findPossible_82 (by decide) ?_
                  refine g_perm (ws' := [(c0, .inr (0, [.ref w0, .ref h0, .ref c1, .int (nI (k_ + 1)), .ref c2])), (c1, .inl (tyI D, 48, .inl (nf (upf P_ k_ i_)))), (c2, .inl (tyZ D, 48, .inl (bf (tkB s i_ F_ 48)))), (w0, .inr (7, [.ref w1, .ref w2, .ref w3, .ref w4, .int (nI 48)])), (w1, .inl (tyI D, 48, .inl (nf tM))), (w2, .inl (tyI D, 48, .inl (nf tN))), (w3, .inl (tyI D, 48, .inl (nf tS))), (w4, .inl (tyI D, 84, .inl hT)), (h0, .inr (5, [.ref h1, .ref h2, .ref h3, .int (nI (sv_nc s)), .ref h4, .ref h5, .int (sv_la s), .int (sv_st s), .int (sv_sw s), .int (sv_fl s), .int (sv_sk s), .int (sv_mu s)])), (h2, .inl (tyI D, 4, .inl (nf (sv_cc s)))), (h3, .inl (tyI D, 4, .inl (nf (sv_cr s)))), (h4, .inl (tyI D, 4, .inl (sv_se s)))]) [3, 0, 4, 5, 6, 7, 8, 9, 10, 1, 2, 11] rfl (by decide) ?_
                  exact ih_ (i_ + 1) _ _ _ (by first | assumption | omega | rfl) (by rw [hk]; first | exact (cntB_t hq).symm | exact (cntB_f hq).symm) (by simp only [fpK]; simp_all) (by rw [hP]; simp only [fpF]; first | exact (by rw [if_pos hq, hk]) | exact (by rw [if_neg (by rw [hq]; decide)])) (by omega)
        exact J28 _ 0 _ _ _ (Nat.zero_le _) (rfl) (rfl) (rfl) (Nat.lt_succ_self _)
      ·
        refine g_aload_n O dX0_findPossible_8 0 rfl rfl ?_
        refine g_get O hiX0_findPossible_X0 0 rfl rfl 4 (by decide) (by decide +kernel) rfl dX0_findPossible_9 ?_
        refine g_iload_n O dX0_findPossible_12 1 rfl rfl ?_
        refine g_iconst (x := (nI 0)) O dX0_findPossible_13 (by decide +kernel) ?_
        refine g_zastN (f' := (bf (upf F_ i_ false))) (ws' := [(c0, .inr (0, [.ref w0, .ref h0, .ref c1, .int (nI pn), .ref c2])), (c1, .inl (tyI D, 48, .inl (nf pf))), (c2, .inl (tyZ D, 48, .inl (bf (upf F_ i_ false)))), (w0, .inr (7, [.ref w1, .ref w2, .ref w3, .ref w4, .int (nI 48)])), (w1, .inl (tyI D, 48, .inl (nf tM))), (w2, .inl (tyI D, 48, .inl (nf tN))), (w3, .inl (tyI D, 48, .inl (nf tS))), (w4, .inl (tyI D, 84, .inl hT)), (h0, .inr (5, [.ref h1, .ref h2, .ref h3, .int (nI (sv_nc s)), .ref h4, .ref h5, .int (sv_la s), .int (sv_st s), .int (sv_sw s), .int (sv_fl s), .int (sv_sk s), .int (sv_mu s)])), (h2, .inl (tyI D, 4, .inl (nf (sv_cc s)))), (h3, .inl (tyI D, 4, .inl (nf (sv_cr s)))), (h4, .inl (tyI D, 4, .inl (sv_se s)))]) O 2 rfl (by omega) (by omega) dX0_findPossible_14 (bf_updF _ _) rfl ?_
        refine g_iincN (L' := [(0, .ref c0), (1, .int (nI (i_ + 1)))]) O dX0_findPossible_15 1 rfl (by decide) [1, 0] rfl ?_
        refine g_goto (tgt := 2) O dX0_findPossible_18 (by decide) ?_
        exact ih_ (i_ + 1) _ (by first | assumption | omega | rfl) (fun j hj => by by_cases h : j = i_; (subst h; exact upf_s _ _ _); (rw [upf_n h]; exact hF j (by omega))) (by omega)
  exact J2 _ 0 _ (Nat.zero_le _) (fun j hj => absurd hj (Nat.not_lt_zero _)) (Nat.lt_succ_self _)
theorem hiX0_init_X0 : ∀ w ∈ wsX00, w ∈ wsX0_init := by decide +kernel
set_option maxHeartbeats 2000000 in
set_option maxRecDepth 100000 in
/-- a new choice -/
theorem kX0_init (l : Launch) (D : va_G) (z : Nat × Nat × Nat) (c0 : Nat) (w0 : Nat) (h0 : Nat)  : CM l yX0_init wsX0_init ({ frames := 1, cells := 2, slots := 96, locals := 14 } : Room) D z [.ref c0, .ref w0, .ref h0] [(c0, .inr (0, [.null, .null, .null, .int (nI 0), .null]))] (fun r_ w_ => ∃ (q0 : Nat), ∃ (q1 : Nat), r_ = none ∧ w_ = [(c0, .inr (0, [.ref w0, .ref h0, .ref q0, .int (nI 0), .ref q1])), (q0, .inl (tyI D, 48, .inl (nf (fun _ => 0)))), (q1, .inl (tyZ D, 48, .inl (bf (fun _ => false))))]) 2 96 := by
  refine CM_void (own := RX0) (cc := cX0_init) (maxL := 3) (L0 := [(0, .ref c0), (1, .ref w0), (2, .ref h0)]) (by decide) rfl rfl (Nat.le_of_ble_eq_true rfl) rfl (fun X O E => ?_)
  refine g_aload_n O dX0_init_0 0 rfl rfl ?_
  refine g_objInit O (by decide +kernel) (by decide +kernel) (by decide +kernel) (by decide) (Nat.le_of_ble_eq_true rfl) dX0_init_1 ?_
  refine g_aload_n O dX0_init_4 0 rfl rfl ?_
  refine g_bipush (x := (nI 48)) O dX0_init_5 (by decide +kernel) ?_
  refine g_newI (N := 48) O (by decide +kernel) (nI_pos (by decide)) (nI_clamp (by decide)) (by decide) (by decide) (by decide) dX0_init_7 (fun q_1 => ?_)
  refine g_eq (ws' := [(c0, .inr (0, [.null, .null, .null, .int (nI 0), .null])), (q_1, .inl (tyI D, 48, .inl (nf (fun _ => 0))))]) rfl rfl (by rfl) ?_
  refine g_putF (ws' := [(c0, .inr (0, [.null, .null, .ref q_1, .int (nI 0), .null])), (q_1, .inl (tyI D, 48, .inl (nf (fun _ => 0))))]) O hiX0_init_X0 tyX0 tyX0_ok nmX0 0 rfl rfl 2 (by decide) (by decide +kernel) rfl rfl rfl (tyX0_ok 2 (by decide)) rfl rfl (Nat.le_of_ble_eq_true rfl) dX0_init_9 rfl ?_
  refine g_aload_n O dX0_init_12 0 rfl rfl ?_
  refine g_iconst (x := (nI 0)) O dX0_init_13 (by decide +kernel) ?_
  refine g_put (ws' := [(c0, .inr (0, [.null, .null, .ref q_1, .int (nI 0), .null])), (q_1, .inl (tyI D, 48, .inl (nf (fun _ => 0))))]) O hiX0_init_X0 tyX0 tyX0_ok nmX0 0 rfl rfl 3 (by decide) (by decide +kernel) rfl (tyX0_ok 3 (by decide)) rfl rfl (Nat.le_of_ble_eq_true rfl) dX0_init_14 rfl ?_
  refine g_aload_n O dX0_init_17 0 rfl rfl ?_
  refine g_bipush (x := (nI 48)) O dX0_init_18 (by decide +kernel) ?_
  refine g_newZ (N := 48) O (by decide +kernel) (nI_pos (by decide)) (nI_clamp (by decide)) (by decide) (by decide) (by decide) dX0_init_20 (fun q_2 => ?_)
  refine g_eq (ws' := [(c0, .inr (0, [.null, .null, .ref q_1, .int (nI 0), .null])), (q_1, .inl (tyI D, 48, .inl (nf (fun _ => 0)))), (q_2, .inl (tyZ D, 48, .inl (bf (fun _ => false))))]) rfl rfl (by rfl) ?_
  refine g_putF (ws' := [(c0, .inr (0, [.null, .null, .ref q_1, .int (nI 0), .ref q_2])), (q_1, .inl (tyI D, 48, .inl (nf (fun _ => 0)))), (q_2, .inl (tyZ D, 48, .inl (bf (fun _ => false))))]) O hiX0_init_X0 tyX0 tyX0_ok nmX0 0 rfl rfl 4 (by decide) (by decide +kernel) rfl rfl rfl (tyX0_ok 4 (by decide)) rfl rfl (Nat.le_of_ble_eq_true rfl) dX0_init_22 rfl ?_
  refine g_aload_n O dX0_init_25 0 rfl rfl ?_
  refine g_aload_n O dX0_init_26 1 rfl rfl ?_
  refine g_putF (ws' := [(c0, .inr (0, [.ref w0, .null, .ref q_1, .int (nI 0), .ref q_2])), (q_1, .inl (tyI D, 48, .inl (nf (fun _ => 0)))), (q_2, .inl (tyZ D, 48, .inl (bf (fun _ => false))))]) O hiX0_init_X0 tyX0 tyX0_ok nmX0 0 rfl rfl 0 (by decide) (by decide +kernel) rfl rfl rfl (tyX0_ok 0 (by decide)) rfl rfl (Nat.le_of_ble_eq_true rfl) dX0_init_27 rfl ?_
  refine g_aload_n O dX0_init_30 0 rfl rfl ?_
  refine g_aload_n O dX0_init_31 2 rfl rfl ?_
  refine g_putF (ws' := [(c0, .inr (0, [.ref w0, .ref h0, .ref q_1, .int (nI 0), .ref q_2])), (q_1, .inl (tyI D, 48, .inl (nf (fun _ => 0)))), (q_2, .inl (tyZ D, 48, .inl (bf (fun _ => false))))]) O hiX0_init_X0 tyX0 tyX0_ok nmX0 0 rfl rfl 1 (by decide) (by decide +kernel) rfl rfl rfl (tyX0_ok 1 (by decide)) rfl rfl (Nat.le_of_ble_eq_true rfl) dX0_init_32 rfl ?_
  exact E 35 _ _ dX0_init_35 (⟨_, _, rfl, rfl⟩)
