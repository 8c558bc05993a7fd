theorem hiX7_listWaysOf_X7 : ∀ w ∈ wsX70, w ∈ wsX7_listWaysOf := by decide +kernel
set_option maxHeartbeats 2000000 in
set_option maxRecDepth 100000 in
/-- the ways of a sum of squares -/
theorem kX7_listWaysOf (l : Launch) (D : va_G) (z : Nat × Nat × Nat) (w0 : Nat) (w1 : Nat) (w2 : Nat) (w3 : Nat) (w4 : Nat) (sq : Nat) (sg : Nat) (a : WL) (hsq : sq ≤ 72) (hsg : sg ≤ 1) (ha : (a).length ≤ 48) : CM l yX7_listWaysOf wsX7_listWaysOf ({ frames := 0, cells := 0, slots := 0, locals := 0 } : Room) D z [.ref w0, .int (nI sq), .int (nI sg)] [(w0, .inr (7, [.ref w1, .ref w2, .ref w3, .ref w4, .int (nI ((a).length))])), (w1, .inl (tyI D, 48, .inl (nf (la1 a)))), (w2, .inl (tyI D, 48, .inl (nf (la2 a)))), (w3, .inl (tyI D, 48, .inl (nf (la3 a))))] (fun r_ w_ => r_ = none ∧ w_ = [(w0, .inr (7, [.ref w1, .ref w2, .ref w3, .ref w4, .int (nI ((lwM sq sg 7 a).length))])), (w1, .inl (tyI D, 48, .inl (nf (la1 (lwM sq sg 7 a))))), (w2, .inl (tyI D, 48, .inl (nf (la2 (lwM sq sg 7 a))))), (w3, .inl (tyI D, 48, .inl (nf (la3 (lwM sq sg 7 a)))))]) 0 0 := by
  refine CM_void (own := RX7) (cc := cX7_listWaysOf) (maxL := 5) (L0 := [(0, .ref w0), (1, .int (nI sq)), (2, .int (nI sg))]) (by decide) rfl rfl (Nat.le_of_ble_eq_true rfl) rfl (fun X O E => ?_)
  refine g_iconst (x := (nI 0)) O dX7_listWaysOf_0 (by decide +kernel) ?_
  refine g_istore_n (L' := [(0, .ref w0), (1, .int (nI sq)), (2, .int (nI sg)), (3, .int (nI 0))]) O dX7_listWaysOf_1 rfl (by decide) [1, 2, 3, 0] rfl ?_
  have J2 : ∀ (n_ : Nat), ∀ (m_ : Nat) (A_ : WL) (hm : m_ ≤ 7) (hA : A_ = lwM sq sg m_ a) (hAl : A_.length ≤ 48), 7 - m_ < n_ → G X 0 0 2 [(0, .ref w0), (1, .int (nI sq)), (2, .int (nI sg)), (3, .int (nI m_))] [] [(w0, .inr (7, [.ref w1, .ref w2, .ref w3, .ref w4, .int (nI ((A_).length))])), (w1, .inl (tyI D, 48, .inl (nf (la1 A_)))), (w2, .inl (tyI D, 48, .inl (nf (la2 A_)))), (w3, .inl (tyI D, 48, .inl (nf (la3 A_))))] := by
    intro n_
    induction n_ with
    | zero => intro m_ A_ hm hA hAl hm_; exact absurd hm_ (Nat.not_lt_zero _)
    | succ n_ ih_ =>
      intro m_ A_ hm hA hAl hm_
      refine g_iload_n O dX7_listWaysOf_2 3 rfl rfl ?_
      refine g_bipush (x := (nI 7)) O dX7_listWaysOf_3 (by decide +kernel) ?_
      refine g_icmp_geN (tgt := 95) O (by omega) (by omega) dX7_listWaysOf_5 (by decide) (fun c_1 => ?_) (fun c_1 => ?_)
      ·
        obtain rfl : m_ = 7 := by omega
        subst hA
        exact E 95 _ _ dX7_listWaysOf_95 ⟨rfl, rfl⟩
      ·
        refine g_iload_n O dX7_listWaysOf_8 3 rfl rfl ?_
        refine g_iload_n O dX7_listWaysOf_9 2 rfl rfl ?_
        refine g_iaddN O dX7_listWaysOf_10 ?_
        refine g_istore (L' := [(0, .ref w0), (1, .int (nI sq)), (2, .int (nI sg)), (3, .int (nI m_)), (4, .int (nI (m_ + sg)))]) O dX7_listWaysOf_11 (by decide) [1, 2, 3, 4, 0] rfl ?_
        have J13 : ∀ (n_ : Nat), ∀ (k_ : Nat) (C_ : WL) (hk : m_ + sg + k_ ≤ 7) (hC : C_ = lwN sq sg m_ k_ A_) (hCl : C_.length ≤ 48), 7 - (m_ + sg + k_) < n_ → G X 0 0 13 [(0, .ref w0), (1, .int (nI sq)), (2, .int (nI sg)), (3, .int (nI m_)), (4, .int (nI (m_ + sg + k_)))] [] [(w0, .inr (7, [.ref w1, .ref w2, .ref w3, .ref w4, .int (nI ((C_).length))])), (w1, .inl (tyI D, 48, .inl (nf (la1 C_)))), (w2, .inl (tyI D, 48, .inl (nf (la2 C_)))), (w3, .inl (tyI D, 48, .inl (nf (la3 C_))))] := by
          intro n_
          induction n_ with
          | zero => intro k_ C_ hk hC hCl hm_; exact absurd hm_ (Nat.not_lt_zero _)
          | succ n_ ih13 =>
            intro k_ C_ hk hC hCl hm_
            refine g_iload O dX7_listWaysOf_13 4 rfl ?_
            refine g_bipush (x := (nI 7)) O dX7_listWaysOf_15 (by decide +kernel) ?_
            refine g_icmp_geN (tgt := 89) O (by omega) (by omega) dX7_listWaysOf_17 (by decide) (fun c_2 => ?_) (fun c_2 => ?_)
            ·
              refine g_iincN (L' := [(0, .ref w0), (1, .int (nI sq)), (2, .int (nI sg)), (3, .int (nI (m_ + 1))), (4, .int (nI (m_ + sg + k_)))]) O dX7_listWaysOf_89 3 rfl (by decide) [1, 2, 3, 0, 4] rfl ?_
              refine g_goto (tgt := 2) O dX7_listWaysOf_92 (by decide) ?_
              refine g_locals (L' := [(0, .ref w0), (1, .int (nI sq)), (2, .int (nI sg)), (3, .int (nI (m_ + 1)))]) [0, 1, 2, 3] rfl ?_
              exact ih_ (m_ + 1) C_ (by first | assumption | omega | rfl) (by rw [hC, hA]; simp only [lwM]; rw [show k_ = 7 - (m_ + sg) by omega]) (by first | assumption | omega | rfl) (by omega)
            ·
              have hmm : m_ * m_ ≤ 36 := by have h := Nat.mul_le_mul (show m_ ≤ 6 by omega) (show m_ ≤ 6 by omega); exact h
              have hnn : (m_ + sg + k_) * (m_ + sg + k_) ≤ 36 := by have h := Nat.mul_le_mul (show (m_ + sg + k_) ≤ 6 by omega) (show (m_ + sg + k_) ≤ 6 by omega); exact h
              refine g_iload_n O dX7_listWaysOf_20 3 rfl rfl ?_
              refine g_iload_n O dX7_listWaysOf_21 3 rfl rfl ?_
              refine g_imulN O dX7_listWaysOf_22 ?_
              refine g_iload O dX7_listWaysOf_23 4 rfl ?_
              refine g_iload O dX7_listWaysOf_25 4 rfl ?_
              refine g_imulN O dX7_listWaysOf_27 ?_
              refine g_iaddN O dX7_listWaysOf_28 ?_
              refine g_iload_n O dX7_listWaysOf_29 1 rfl rfl ?_
              refine g_icmp_neN (tgt := 83) O (by omega) (by omega) dX7_listWaysOf_30 (by decide) (fun c_3 => ?_) (fun c_3 => ?_)
              ·
                have hq : lwN sq sg m_ (k_ + 1) A_ = C_ := by simp only [lwN]; rw [← hC]; simp only [addW]; rw [if_neg (fun h => c_3 h.1)]
                refine g_iincN (L' := [(0, .ref w0), (1, .int (nI sq)), (2, .int (nI sg)), (3, .int (nI m_)), (4, .int (nI (m_ + sg + k_ + 1)))]) O dX7_listWaysOf_83 4 rfl (by decide) [1, 2, 3, 4, 0] rfl ?_
                refine g_goto (tgt := 13) O dX7_listWaysOf_86 (by decide) ?_
                exact ih13 (k_ + 1) C_ (by first | assumption | omega | rfl) (hq.symm) (by rw [← hq]; exact lwN_le hAl) (by omega)
              ·
                have hcq := c_3
                refine g_aload_n O dX7_listWaysOf_33 0 rfl rfl ?_
                refine g_get O hiX7_listWaysOf_X7 0 rfl rfl 4 (by decide) (by decide +kernel) rfl dX7_listWaysOf_34 ?_
                refine g_bipush (x := (nI 48)) O dX7_listWaysOf_37 (by decide +kernel) ?_
                refine g_icmp_geN (tgt := 83) O (by omega) (by omega) dX7_listWaysOf_39 (by decide) (fun c_4 => ?_) (fun c_4 => ?_)
                ·
                  have hq : lwN sq sg m_ (k_ + 1) A_ = C_ := by simp only [lwN]; rw [← hC]; simp only [addW]; rw [if_neg (fun h => absurd h.2 (by omega))]
                  refine g_iincN (L' := [(0, .ref w0), (1, .int (nI sq)), (2, .int (nI sg)), (3, .int (nI m_)), (4, .int (nI (m_ + sg + k_ + 1)))]) O dX7_listWaysOf_83 4 rfl (by decide) [1, 2, 3, 4, 0] rfl ?_
                  refine g_goto (tgt := 13) O dX7_listWaysOf_86 (by decide) ?_
                  exact ih13 (k_ + 1) C_ (by first | assumption | omega | rfl) (hq.symm) (by rw [← hq]; exact lwN_le hAl) (by omega)
                ·
                  refine g_aload_n O dX7_listWaysOf_42 0 rfl rfl ?_
                  refine g_get O hiX7_listWaysOf_X7 0 rfl rfl 0 (by decide) (by decide +kernel) rfl dX7_listWaysOf_43 ?_
                  refine g_aload_n O dX7_listWaysOf_46 0 rfl rfl ?_
                  refine g_get O hiX7_listWaysOf_X7 0 rfl rfl 4 (by decide) (by decide +kernel) rfl dX7_listWaysOf_47 ?_
                  refine g_iload_n O dX7_listWaysOf_50 3 rfl rfl ?_
                  refine g_iastN (f' := (nf (upf (la1 C_) ((C_).length) m_))) (ws' := [(w0, .inr (7, [.ref w1, .ref w2, .ref w3, .ref w4, .int (nI ((C_).length))])), (w1, .inl (tyI D, 48, .inl (nf (upf (la1 C_) ((C_).length) m_)))), (w2, .inl (tyI D, 48, .inl (nf (la2 C_)))), (w3, .inl (tyI D, 48, .inl (nf (la3 C_))))]) O 1 rfl (by omega) (by omega) dX7_listWaysOf_51 (nf_upd _ _ _) rfl ?_
                  refine g_aload_n O dX7_listWaysOf_52 0 rfl rfl ?_
                  refine g_get O hiX7_listWaysOf_X7 0 rfl rfl 1 (by decide) (by decide +kernel) rfl dX7_listWaysOf_53 ?_
                  refine g_aload_n O dX7_listWaysOf_56 0 rfl rfl ?_
                  refine g_get O hiX7_listWaysOf_X7 0 rfl rfl 4 (by decide) (by decide +kernel) rfl dX7_listWaysOf_57 ?_
                  refine g_iload O dX7_listWaysOf_60 4 rfl ?_
                  refine g_iastN (f' := (nf (upf (la2 C_) ((C_).length) (m_ + sg + k_)))) (ws' := [(w0, .inr (7, [.ref w1, .ref w2, .ref w3, .ref w4, .int (nI ((C_).length))])), (w1, .inl (tyI D, 48, .inl (nf (upf (la1 C_) ((C_).length) m_)))), (w2, .inl (tyI D, 48, .inl (nf (upf (la2 C_) ((C_).length) (m_ + sg + k_))))), (w3, .inl (tyI D, 48, .inl (nf (la3 C_))))]) O 2 rfl (by omega) (by omega) dX7_listWaysOf_62 (nf_upd _ _ _) rfl ?_
                  refine g_aload_n O dX7_listWaysOf_63 0 rfl rfl ?_
                  refine g_get O hiX7_listWaysOf_X7 0 rfl rfl 2 (by decide) (by decide +kernel) rfl dX7_listWaysOf_64 ?_
                  refine g_aload_n O dX7_listWaysOf_67 0 rfl rfl ?_
                  refine g_get O hiX7_listWaysOf_X7 0 rfl rfl 4 (by decide) (by decide +kernel) rfl dX7_listWaysOf_68 ?_
                  refine g_iload_n O dX7_listWaysOf_71 2 rfl rfl ?_
                  refine g_iastN (f' := (nf (upf (la3 C_) ((C_).length) sg))) (ws' := [(w0, .inr (7, [.ref w1, .ref w2, .ref w3, .ref w4, .int (nI ((C_).length))])), (w1, .inl (tyI D, 48, .inl (nf (upf (la1 C_) ((C_).length) m_)))), (w2, .inl (tyI D, 48, .inl (nf (upf (la2 C_) ((C_).length) (m_ + sg + k_))))), (w3, .inl (tyI D, 48, .inl (nf (upf (la3 C_) ((C_).length) sg))))]) O 3 rfl (by omega) (by omega) dX7_listWaysOf_72 (nf_upd _ _ _) rfl ?_
                  refine g_aload_n O dX7_listWaysOf_73 0 rfl rfl ?_
                  refine g_dup O dX7_listWaysOf_74 rfl ?_
                  refine g_get O hiX7_listWaysOf_X7 0 rfl rfl 4 (by decide) (by decide +kernel) rfl dX7_listWaysOf_75 ?_
                  refine g_iconst (x := (nI 1)) O dX7_listWaysOf_78 (by decide +kernel) ?_
                  refine g_iaddN O dX7_listWaysOf_79 ?_
                  refine g_put (ws' := [(w0, .inr (7, [.ref w1, .ref w2, .ref w3, .ref w4, .int (nI (((C_).length) + 1))])), (w1, .inl (tyI D, 48, .inl (nf (upf (la1 C_) ((C_).length) m_)))), (w2, .inl (tyI D, 48, .inl (nf (upf (la2 C_) ((C_).length) (m_ + sg + k_))))), (w3, .inl (tyI D, 48, .inl (nf (upf (la3 C_) ((C_).length) sg))))]) O hiX7_listWaysOf_X7 tyX7 tyX7_ok nmX7 0 rfl rfl 4 (by decide) (by decide +kernel) rfl (tyX7_ok 4 (by decide)) rfl rfl (Nat.le_of_ble_eq_true rfl) dX7_listWaysOf_80 rfl ?_
                  have hq : lwN sq sg m_ (k_ + 1) A_ = (C_ ++ [(m_, m_ + sg + k_, sg)]) := by simp only [lwN]; rw [← hC]; simp only [addW]; rw [if_pos ⟨hcq, by assumption⟩]
                  refine g_eq (ws' := [(w0, .inr (7, [.ref w1, .ref w2, .ref w3, .ref w4, .int (nI (((C_ ++ [(m_, m_ + sg + k_, sg)])).length))])), (w1, .inl (tyI D, 48, .inl (nf (la1 (C_ ++ [(m_, m_ + sg + k_, sg)]))))), (w2, .inl (tyI D, 48, .inl (nf (la2 (C_ ++ [(m_, m_ + sg + k_, sg)]))))), (w3, .inl (tyI D, 48, .inl (nf (la3 (C_ ++ [(m_, m_ + sg + k_, sg)])))))]) rfl rfl (by rw [la1_s C_ m_ (m_ + sg + k_) sg, la2_s C_ m_ (m_ + sg + k_) sg, la3_s C_ m_ (m_ + sg + k_) sg]; simp) ?_
                  refine g_iincN (L' := [(0, .ref w0), (1, .int (nI sq)), (2, .int (nI sg)), (3, .int (nI m_)), (4, .int (nI (m_ + sg + k_ + 1)))]) O dX7_listWaysOf_83 4 rfl (by decide) [1, 2, 3, 4, 0] rfl ?_
                  refine g_goto (tgt := 13) O dX7_listWaysOf_86 (by decide) ?_
                  exact ih13 (k_ + 1) (C_ ++ [(m_, m_ + sg + k_, sg)]) (by first | assumption | omega | rfl) (hq.symm) (by rw [← hq]; exact lwN_le hAl) (by omega)
        exact J13 _ 0 A_ (by first | assumption | omega | rfl) (rfl) (by first | assumption | omega | rfl) (Nat.lt_succ_self _)
  exact J2 _ 0 a (Nat.zero_le _) (rfl) (by first | assumption | omega | rfl) (Nat.lt_succ_self _)
theorem hiX7_init_X7 : ∀ w ∈ wsX70, w ∈ wsX7_init := by decide +kernel
set_option maxHeartbeats 2000000 in
set_option maxRecDepth 100000 in
/-- the ways -/
theorem kX7_init (l : Launch) (D : va_G) (z : Nat × Nat × Nat) (w0 : Nat)  : CM l yX7_init wsX7_init ({ frames := 1, cells := 4, slots := 228, locals := 24 } : Room) D z [.ref w0] [(w0, .inr (7, [.null, .null, .null, .null, .int (nI 0)]))] (fun r_ w_ => ∃ (q0 : Nat), ∃ (q1 : Nat), ∃ (q2 : Nat), ∃ (q3 : Nat), r_ = none ∧ w_ = [(w0, .inr (7, [.ref q0, .ref q1, .ref q2, .ref q3, .int (nI 48)])), (q0, .inl (tyI D, 48, .inl (nf tM))), (q1, .inl (tyI D, 48, .inl (nf tN))), (q2, .inl (tyI D, 48, .inl (nf tS))), (q3, .inl (tyI D, 84, .inl hT))]) 4 228 := by
  refine CM_void (own := RX7) (cc := cX7_init) (maxL := 3) (L0 := [(0, .ref w0)]) (by decide) rfl rfl (Nat.le_of_ble_eq_true rfl) rfl (fun X O E => ?_)
  refine g_aload_n O dX7_init_0 0 rfl rfl ?_
  refine g_objInit O (by decide +kernel) (by decide +kernel) (by decide +kernel) (by decide) (Nat.le_of_ble_eq_true rfl) dX7_init_1 ?_
  refine g_aload_n O dX7_init_4 0 rfl rfl ?_
  refine g_bipush (x := (nI 48)) O dX7_init_5 (by decide +kernel) ?_
  refine g_newI (N := 48) O (by decide +kernel) (nI_pos (by decide)) (nI_clamp (by decide)) (by decide) (by decide) (by decide) dX7_init_7 (fun q_1 => ?_)
  refine g_eq (ws' := [(w0, .inr (7, [.null, .null, .null, .null, .int (nI 0)])), (q_1, .inl (tyI D, 48, .inl (nf (fun _ => 0))))]) rfl rfl (by rfl) ?_
  refine g_putF (ws' := [(w0, .inr (7, [.ref q_1, .null, .null, .null, .int (nI 0)])), (q_1, .inl (tyI D, 48, .inl (nf (fun _ => 0))))]) O hiX7_init_X7 tyX7 tyX7_ok nmX7 0 rfl rfl 0 (by decide) (by decide +kernel) rfl rfl rfl (tyX7_ok 0 (by decide)) rfl rfl (Nat.le_of_ble_eq_true rfl) dX7_init_9 rfl ?_
  refine g_aload_n O dX7_init_12 0 rfl rfl ?_
  refine g_bipush (x := (nI 48)) O dX7_init_13 (by decide +kernel) ?_
  refine g_newI (N := 48) O (by decide +kernel) (nI_pos (by decide)) (nI_clamp (by decide)) (by decide) (by decide) (by decide) dX7_init_15 (fun q_2 => ?_)
  refine g_eq (ws' := [(w0, .inr (7, [.ref q_1, .null, .null, .null, .int (nI 0)])), (q_1, .inl (tyI D, 48, .inl (nf (fun _ => 0)))), (q_2, .inl (tyI D, 48, .inl (nf (fun _ => 0))))]) rfl rfl (by rfl) ?_
  refine g_putF (ws' := [(w0, .inr (7, [.ref q_1, .ref q_2, .null, .null, .int (nI 0)])), (q_1, .inl (tyI D, 48, .inl (nf (fun _ => 0)))), (q_2, .inl (tyI D, 48, .inl (nf (fun _ => 0))))]) O hiX7_init_X7 tyX7 tyX7_ok nmX7 0 rfl rfl 1 (by decide) (by decide +kernel) rfl rfl rfl (tyX7_ok 1 (by decide)) rfl rfl (Nat.le_of_ble_eq_true rfl) dX7_init_17 rfl ?_
  refine g_aload_n O dX7_init_20 0 rfl rfl ?_
  refine g_bipush (x := (nI 48)) O dX7_init_21 (by decide +kernel) ?_
  refine g_newI (N := 48) O (by decide +kernel) (nI_pos (by decide)) (nI_clamp (by decide)) (by decide) (by decide) (by decide) dX7_init_23 (fun q_3 => ?_)
  refine g_eq (ws' := [(w0, .inr (7, [.ref q_1, .ref q_2, .null, .null, .int (nI 0)])), (q_1, .inl (tyI D, 48, .inl (nf (fun _ => 0)))), (q_2, .inl (tyI D, 48, .inl (nf (fun _ => 0)))), (q_3, .inl (tyI D, 48, .inl (nf (fun _ => 0))))]) rfl rfl (by rfl) ?_
  refine g_putF (ws' := [(w0, .inr (7, [.ref q_1, .ref q_2, .ref q_3, .null, .int (nI 0)])), (q_1, .inl (tyI D, 48, .inl (nf (fun _ => 0)))), (q_2, .inl (tyI D, 48, .inl (nf (fun _ => 0)))), (q_3, .inl (tyI D, 48, .inl (nf (fun _ => 0))))]) O hiX7_init_X7 tyX7 tyX7_ok nmX7 0 rfl rfl 2 (by decide) (by decide +kernel) rfl rfl rfl (tyX7_ok 2 (by decide)) rfl rfl (Nat.le_of_ble_eq_true rfl) dX7_init_25 rfl ?_
  refine g_aload_n O dX7_init_28 0 rfl rfl ?_
  refine g_bipush (x := (nI 84)) O dX7_init_29 (by decide +kernel) ?_
  refine g_newI (N := 84) O (by decide +kernel) (nI_pos (by decide)) (nI_clamp (by decide)) (by decide) (by decide) (by decide) dX7_init_31 (fun q_4 => ?_)
  refine g_eq (ws' := [(w0, .inr (7, [.ref q_1, .ref q_2, .ref q_3, .null, .int (nI 0)])), (q_1, .inl (tyI D, 48, .inl (nf (fun _ => 0)))), (q_2, .inl (tyI D, 48, .inl (nf (fun _ => 0)))), (q_3, .inl (tyI D, 48, .inl (nf (fun _ => 0)))), (q_4, .inl (tyI D, 84, .inl (nf (fun _ => 0))))]) rfl rfl (by rfl) ?_
  refine g_putF (ws' := [(w0, .inr (7, [.ref q_1, .ref q_2, .ref q_3, .ref q_4, .int (nI 0)])), (q_1, .inl (tyI D, 48, .inl (nf (fun _ => 0)))), (q_2, .inl (tyI D, 48, .inl (nf (fun _ => 0)))), (q_3, .inl (tyI D, 48, .inl (nf (fun _ => 0)))), (q_4, .inl (tyI D, 84, .inl (nf (fun _ => 0))))]) O hiX7_init_X7 tyX7 tyX7_ok nmX7 0 rfl rfl 3 (by decide) (by decide +kernel) rfl rfl rfl (tyX7_ok 3 (by decide)) rfl rfl (Nat.le_of_ble_eq_true rfl) dX7_init_33 rfl ?_
  refine g_aload_n O dX7_init_36 0 rfl rfl ?_
  refine g_iconst (x := (nI 0)) O dX7_init_37 (by decide +kernel) ?_
  refine g_put (ws' := [(w0, .inr (7, [.ref q_1, .ref q_2, .ref q_3, .ref q_4, .int (nI 0)])), (q_1, .inl (tyI D, 48, .inl (nf (fun _ => 0)))), (q_2, .inl (tyI D, 48, .inl (nf (fun _ => 0)))), (q_3, .inl (tyI D, 48, .inl (nf (fun _ => 0)))), (q_4, .inl (tyI D, 84, .inl (nf (fun _ => 0))))]) O hiX7_init_X7 tyX7 tyX7_ok nmX7 0 rfl rfl 4 (by decide) (by decide +kernel) rfl (tyX7_ok 4 (by decide)) rfl rfl (Nat.le_of_ble_eq_true rfl) dX7_init_38 rfl ?_
  refine g_iconst (x := (nI 0)) O dX7_init_41 (by decide +kernel) ?_
  refine g_istore_n (L' := [(0, .ref w0), (1, .int (nI 0))]) O dX7_init_42 rfl (by decide) [1, 0] rfl ?_
  have J43 : ∀ (n_ : Nat), ∀ (k_ : Nat) (F_ : Nat → Int32) (hk : k_ ≤ 7) (hF : ∀ j, j < k_ * 12 → F_ j = hT j), 7 - k_ < n_ → G X 4 228 43 [(0, .ref w0), (1, .int (nI k_))] [] [(w0, .inr (7, [.ref q_1, .ref q_2, .ref q_3, .ref q_4, .int (nI 0)])), (q_1, .inl (tyI D, 48, .inl (nf (fun _ => 0)))), (q_2, .inl (tyI D, 48, .inl (nf (fun _ => 0)))), (q_3, .inl (tyI D, 48, .inl (nf (fun _ => 0)))), (q_4, .inl (tyI D, 84, .inl F_))] := by
    intro n_
    induction n_ with
    | zero => intro k_ F_ hk hF hm_; exact absurd hm_ (Nat.not_lt_zero _)
    | succ n_ ih_ =>
      intro k_ F_ hk hF hm_
      refine g_iload_n O dX7_init_43 1 rfl rfl ?_
      refine g_bipush (x := (nI 7)) O dX7_init_44 (by decide +kernel) ?_
      refine g_icmp_geN (tgt := 85) O (by omega) (by omega) dX7_init_46 (by decide) (fun c_5 => ?_) (fun c_5 => ?_)
      ·
        refine g_arr (f' := hT) (ws' := [(w0, .inr (7, [.ref q_1, .ref q_2, .ref q_3, .ref q_4, .int (nI 0)])), (q_1, .inl (tyI D, 48, .inl (nf (fun _ => 0)))), (q_2, .inl (tyI D, 48, .inl (nf (fun _ => 0)))), (q_3, .inl (tyI D, 48, .inl (nf (fun _ => 0)))), (q_4, .inl (tyI D, 84, .inl hT))]) 4 rfl (fun j hj => hF j (by omega)) rfl ?_
        refine g_eq (ws' := [(w0, .inr (7, [.ref q_1, .ref q_2, .ref q_3, .ref q_4, .int (nI (((lwA 0)).length))])), (q_1, .inl (tyI D, 48, .inl (nf (la1 (lwA 0))))), (q_2, .inl (tyI D, 48, .inl (nf (la2 (lwA 0))))), (q_3, .inl (tyI D, 48, .inl (nf (la3 (lwA 0))))), (q_4, .inl (tyI D, 84, .inl hT))]) rfl rfl rfl ?_
        refine g_bipush (x := (nI 72)) O dX7_init_85 (by decide +kernel) ?_
        refine g_istore_n (L' := [(0, .ref w0), (1, .int (nI 72))]) O dX7_init_87 rfl (by decide) [1, 0] rfl ?_
        refine g_iconst (x := (nI 1)) O dX7_init_88 (by decide +kernel) ?_
        refine g_istore_n (L' := [(0, .ref w0), (1, .int (nI 72)), (2, .int (nI 1))]) O dX7_init_89 rfl (by decide) [1, 2, 0] rfl ?_
        have J90 : ∀ (n_ : Nat), ∀ (i_ : Nat) (hi_ : i_ ≤ 72), 72 - i_ < n_ → G X 4 228 90 [(0, .ref w0), (1, .int (nI 72)), (2, .int (nI (i_ + 1)))] [] [(w0, .inr (7, [.ref q_1, .ref q_2, .ref q_3, .ref q_4, .int (nI (((lwA i_)).length))])), (q_1, .inl (tyI D, 48, .inl (nf (la1 (lwA i_))))), (q_2, .inl (tyI D, 48, .inl (nf (la2 (lwA i_))))), (q_3, .inl (tyI D, 48, .inl (nf (la3 (lwA i_))))), (q_4, .inl (tyI D, 84, .inl hT))] := by
          intro n_
          induction n_ with
          | zero => intro i_ hi_ hm_; exact absurd hm_ (Nat.not_lt_zero _)
          | succ n_ ih_ =>
            intro i_ hi_ hm_
            refine g_iload_n O dX7_init_90 2 rfl rfl ?_
            refine g_iload_n O dX7_init_91 1 rfl rfl ?_
            refine g_icmp_gtN (tgt := 113) O (by omega) (by omega) dX7_init_92 (by decide) (fun c_6 => ?_) (fun c_6 => ?_)
            ·
              obtain rfl : i_ = 72 := by omega
              refine g_eq (ws' := [(w0, .inr (7, [.ref q_1, .ref q_2, .ref q_3, .ref q_4, .int (nI 48)])), (q_1, .inl (tyI D, 48, .inl (nf tM))), (q_2, .inl (tyI D, 48, .inl (nf tN))), (q_3, .inl (tyI D, 48, .inl (nf tS))), (q_4, .inl (tyI D, 84, .inl hT))]) rfl rfl (by rw [lwA_all]; rfl) ?_
              exact E 113 _ _ dX7_init_113 (⟨_, _, _, _, rfl, rfl⟩)
            ·
              refine g_aload_n O dX7_init_95 0 rfl rfl ?_
              refine g_iload_n O dX7_init_96 2 rfl rfl ?_
              refine g_iconst (x := (nI 0)) O dX7_init_97 (by decide +kernel) ?_
              refine g_callV (As := [.int (nI (i_ + 1)), .int (nI 0)]) (wr := [(q_4, .inl (tyI D, 84, .inl hT))]) O (kX7_listWaysOf l D z w0 q_1 q_2 q_3 q_4 (i_ + 1) 0 (lwA i_) (by first | assumption | omega | exact lwA_le _) (by first | assumption | omega | exact lwA_le _) (by first | assumption | omega | exact lwA_le _)) gX7_init_X7_listWaysOf rfl rfl rfl 2 (by decide +kernel) (by decide) (by decide) (q0 := 0) rfl rfl rfl [0, 1, 2, 3] [4] rfl (by decide) rfl (by decide) (by decide) rfl rfl (Nat.le_of_ble_eq_true rfl) dX7_init_98 (fun r_7 w_8 hp => ?_)
              obtain ⟨rfl, rfl⟩ := hp
              refine g_eq (st' := []) (ws' := [(q_4, .inl (tyI D, 84, .inl hT)), (w0, .inr (7, [.ref q_1, .ref q_2, .ref q_3, .ref q_4, .int (nI ((lwM (i_ + 1) 0 7 (lwA i_)).length))])), (q_1, .inl (tyI D, 48, .inl (nf (la1 (lwM (i_ + 1) 0 7 (lwA i_)))))), (q_2, .inl (tyI D, 48, .inl (nf (la2 (lwM (i_ + 1) 0 7 (lwA i_)))))), (q_3, .inl (tyI D, 48, .inl (nf (la3 (lwM (i_ + 1) 0 7 (lwA i_))))))]) rfl rfl rfl ?_
              refine g_aload_n O dX7_init_101 0 rfl rfl ?_
              refine g_iload_n O dX7_init_102 2 rfl rfl ?_
              refine g_iconst (x := (nI 1)) O dX7_init_103 (by decide +kernel) ?_
              refine g_callV (As := [.int (nI (i_ + 1)), .int (nI 1)]) (wr := [(q_4, .inl (tyI D, 84, .inl hT))]) O (kX7_listWaysOf l D z w0 q_1 q_2 q_3 q_4 (i_ + 1) 1 (lwM (i_ + 1) 0 7 (lwA i_)) (by first | assumption | omega | exact lwM_le (lwA_le _)) (by first | assumption | omega | exact lwM_le (lwA_le _)) (by first | assumption | omega | exact lwM_le (lwA_le _))) gX7_init_X7_listWaysOf rfl rfl rfl 2 (by decide +kernel) (by decide) (by decide) (q0 := 0) rfl rfl rfl [1, 2, 3, 4] [0] rfl (by decide) rfl (by decide) (by decide) rfl rfl (Nat.le_of_ble_eq_true rfl) dX7_init_104 (fun r_9 w_10 hp => ?_)
              obtain ⟨rfl, rfl⟩ := hp
              refine g_eq (st' := []) (ws' := [(q_4, .inl (tyI D, 84, .inl hT)), (w0, .inr (7, [.ref q_1, .ref q_2, .ref q_3, .ref q_4, .int (nI ((lwM (i_ + 1) 1 7 (lwM (i_ + 1) 0 7 (lwA i_))).length))])), (q_1, .inl (tyI D, 48, .inl (nf (la1 (lwM (i_ + 1) 1 7 (lwM (i_ + 1) 0 7 (lwA i_))))))), (q_2, .inl (tyI D, 48, .inl (nf (la2 (lwM (i_ + 1) 1 7 (lwM (i_ + 1) 0 7 (lwA i_))))))), (q_3, .inl (tyI D, 48, .inl (nf (la3 (lwM (i_ + 1) 1 7 (lwM (i_ + 1) 0 7 (lwA i_)))))))]) rfl rfl rfl ?_
              refine g_iincN (L' := [(0, .ref w0), (1, .int (nI 72)), (2, .int (nI (i_ + 1 + 1)))]) O dX7_init_107 2 rfl (by decide) [1, 2, 0] rfl ?_
              refine g_goto (tgt := 90) O dX7_init_110 (by decide) ?_
              refine g_perm (ws' := [(w0, .inr (7, [.ref q_1, .ref q_2, .ref q_3, .ref q_4, .int (nI ((lwM (i_ + 1) 1 7 (lwM (i_ + 1) 0 7 (lwA i_))).length))])), (q_1, .inl (tyI D, 48, .inl (nf (la1 (lwM (i_ + 1) 1 7 (lwM (i_ + 1) 0 7 (lwA i_))))))), (q_2, .inl (tyI D, 48, .inl (nf (la2 (lwM (i_ + 1) 1 7 (lwM (i_ + 1) 0 7 (lwA i_))))))), (q_3, .inl (tyI D, 48, .inl (nf (la3 (lwM (i_ + 1) 1 7 (lwM (i_ + 1) 0 7 (lwA i_))))))), (q_4, .inl (tyI D, 84, .inl hT))]) [1, 2, 3, 4, 0] rfl (by decide) ?_
              exact ih_ (i_ + 1) (by first | assumption | omega | rfl) (by omega)
        exact J90 _ 0 (Nat.zero_le _) (Nat.lt_succ_self _)
      ·
        refine g_iconst (x := (nI 0)) O dX7_init_49 (by decide +kernel) ?_
        refine g_istore_n (L' := [(0, .ref w0), (1, .int (nI k_)), (2, .int (nI 0))]) O dX7_init_50 rfl (by decide) [1, 2, 0] rfl ?_
        have J51 : ∀ (n_ : Nat), ∀ (x_ : Nat) (E_ : Nat → Int32) (hx : x_ ≤ 12) (hE : ∀ j, j < k_ * 12 + x_ → E_ j = hT j), 12 - x_ < n_ → G X 4 228 51 [(0, .ref w0), (1, .int (nI k_)), (2, .int (nI x_))] [] [(w0, .inr (7, [.ref q_1, .ref q_2, .ref q_3, .ref q_4, .int (nI 0)])), (q_1, .inl (tyI D, 48, .inl (nf (fun _ => 0)))), (q_2, .inl (tyI D, 48, .inl (nf (fun _ => 0)))), (q_3, .inl (tyI D, 48, .inl (nf (fun _ => 0)))), (q_4, .inl (tyI D, 84, .inl E_))] := by
          intro n_
          induction n_ with
          | zero => intro x_ E_ hx hE hm_; exact absurd hm_ (Nat.not_lt_zero _)
          | succ n_ ih51 =>
            intro x_ E_ hx hE hm_
            refine g_iload_n O dX7_init_51 2 rfl rfl ?_
            refine g_bipush (x := (nI 12)) O dX7_init_52 (by decide +kernel) ?_
            refine g_icmp_geN (tgt := 79) O (by omega) (by omega) dX7_init_54 (by decide) (fun c_11 => ?_) (fun c_11 => ?_)
            ·
              refine g_iincN (L' := [(0, .ref w0), (1, .int (nI (k_ + 1))), (2, .int (nI x_))]) O dX7_init_79 1 rfl (by decide) [1, 0, 2] rfl ?_
              refine g_goto (tgt := 43) O dX7_init_82 (by decide) ?_
              refine g_locals (L' := [(0, .ref w0), (1, .int (nI (k_ + 1)))]) [0, 1] rfl ?_
              exact ih_ (k_ + 1) E_ (by first | assumption | omega | rfl) (fun j hj => hE j (by omega)) (by omega)
            ·
              refine g_aload_n O dX7_init_57 0 rfl rfl ?_
              refine g_get O hiX7_init_X7 0 rfl rfl 3 (by decide) (by decide +kernel) rfl dX7_init_58 ?_
              refine g_iload_n O dX7_init_61 1 rfl rfl ?_
              refine g_bipush (x := (nI 12)) O dX7_init_62 (by decide +kernel) ?_
              refine g_imulN O dX7_init_64 ?_
              refine g_iload_n O dX7_init_65 2 rfl rfl ?_
              refine g_iaddN O dX7_init_66 ?_
              refine g_iload_n O dX7_init_67 1 rfl rfl ?_
              refine g_iload_n O dX7_init_68 2 rfl rfl ?_
              refine g_callS (As := [.int (nI k_), .int (nI x_)]) (wr := [(w0, .inr (7, [.ref q_1, .ref q_2, .ref q_3, .ref q_4, .int (nI 0)])), (q_1, .inl (tyI D, 48, .inl (nf (fun _ => 0)))), (q_2, .inl (tyI D, 48, .inl (nf (fun _ => 0)))), (q_3, .inl (tyI D, 48, .inl (nf (fun _ => 0)))), (q_4, .inl (tyI D, 84, .inl E_))]) O (kX7_waveHeight l D z k_ x_ (by first | assumption | omega) (by first | assumption | omega)) gX7_init_X7_waveHeight rfl rfl rfl 2 (by decide +kernel) (by decide) (by decide) [] [0, 1, 2, 3, 4] rfl (by decide) rfl (by decide) (by decide) rfl rfl (Nat.le_of_ble_eq_true rfl) dX7_init_69 (fun r_12 w_13 hp => ?_)
              obtain ⟨rfl, rfl⟩ := hp
              refine g_eq (st' := [.int (hW k_ x_), .int (nI ((k_ * 12) + x_)), .ref q_4]) (ws' := [(w0, .inr (7, [.ref q_1, .ref q_2, .ref q_3, .ref q_4, .int (nI 0)])), (q_1, .inl (tyI D, 48, .inl (nf (fun _ => 0)))), (q_2, .inl (tyI D, 48, .inl (nf (fun _ => 0)))), (q_3, .inl (tyI D, 48, .inl (nf (fun _ => 0)))), (q_4, .inl (tyI D, 84, .inl E_))]) rfl rfl rfl ?_
              refine g_iastN (f' := (upd E_ ((k_ * 12) + x_) (hW k_ x_))) (ws' := [(w0, .inr (7, [.ref q_1, .ref q_2, .ref q_3, .ref q_4, .int (nI 0)])), (q_1, .inl (tyI D, 48, .inl (nf (fun _ => 0)))), (q_2, .inl (tyI D, 48, .inl (nf (fun _ => 0)))), (q_3, .inl (tyI D, 48, .inl (nf (fun _ => 0)))), (q_4, .inl (tyI D, 84, .inl (upd E_ ((k_ * 12) + x_) (hW k_ x_))))]) O 4 rfl (by omega) (by omega) dX7_init_72 rfl rfl ?_
              refine g_iincN (L' := [(0, .ref w0), (1, .int (nI k_)), (2, .int (nI (x_ + 1)))]) O dX7_init_73 2 rfl (by decide) [1, 2, 0] rfl ?_
              refine g_goto (tgt := 51) O dX7_init_76 (by decide) ?_
              exact ih51 (x_ + 1) (upd E_ ((k_ * 12) + x_) (hW k_ x_)) (by first | assumption | omega | rfl) (fun j hj => by by_cases h : j = k_ * 12 + x_; (subst h; rw [pk_us]; exact (hT_at (by omega)).symm); (rw [pk_un h]; exact hE j (by omega))) (by omega)
        exact J51 _ 0 F_ (Nat.zero_le _) (fun j hj => hF j (by omega)) (Nat.lt_succ_self _)
  exact J43 _ 0 (nf (fun _ => 0)) (Nat.zero_le _) (fun j hj => absurd hj (by omega)) (Nat.lt_succ_self _)
