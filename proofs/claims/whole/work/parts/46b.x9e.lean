theorem hiX9_go_X9 : ∀ w ∈ wsX90, w ∈ wsX9_go := by intro w h; simp only [wsX9_go, List.mem_append, List.mem_cons, h, or_true, true_or]
set_option maxHeartbeats 2000000 in
set_option maxRecDepth 100000 in
/-- the bowings of a text -/
theorem kX9_go_f (l : Launch) (D : va_G) (z : Nat × Nat × Nat) (u0 : Nat) (u1 : Nat) (u2 : Nat) (u3 : Nat) (u4 : Nat) (u5 : Nat) (u6 : Nat) (u7 : Nat) (u8 : Nat) (u9 : Nat) (u10 : Nat) (u11 : Nat) (kn : Nat) (ik : Bool) (ty : Nat) (ta : Nat) (iw : Bool) (tx : Nat → Nat) (fs : Nat → Nat) (fa : Nat → Nat) (fk : Nat → Nat) (hty : ty ≤ 60) (htx : ∀ j, j < ty → tx j < 65536) : CM l yX9_go wsX9_go ({ frames := 3, cells := 0, slots := 0, locals := 69 } : Room) D z [.ref u0, .int (bB false)] [(u0, .inr (9, [.ref u1, .ref u2, .ref u3, .ref u4, .ref u5, .ref u6, .int (nI kn), .ref u7, .int (bB ik), .ref u8, .int (nI ty), .ref u9, .int (nI ta), .int (bB iw), .ref u10, .ref u11])), (u8, .inl (tyI D, 60, .inl (nf tx)))] (fun r_ w_ => ∃ (r9 : Int32), ((rdP tx ty 60 0 fs fa fk 0).1 = true → r9 = nI (rdP tx ty 60 0 fs fa fk 0).2.2.2.2.2) ∧ r_ = some (.int r9) ∧ w_ = [(u0, .inr (9, [.ref u1, .ref u2, .ref u3, .ref u4, .ref u5, .ref u6, .int (nI kn), .ref u7, .int (bB ik), .ref u8, .int (nI ty), .ref u9, .int (nI ((rdP tx ty 60 0 fs fa fk 0).2.1)), .int (bB (!(rdP tx ty 60 0 fs fa fk 0).1)), .ref u10, .ref u11])), (u8, .inl (tyI D, 60, .inl (nf tx)))]) 0 0 := by
  refine CM_int (own := RX9) (cc := cX9_go) (maxL := 11) (L0 := [(0, .ref u0), (1, .int (bB false))]) (by decide) rfl rfl (Nat.le_of_ble_eq_true rfl) rfl (fun X O E => ?_)
  refine g_aload_n O dX9_go_0 0 rfl rfl ?_
  refine g_iconst (x := (nI 0)) O dX9_go_1 (by decide +kernel) ?_
  refine g_put (ws' := [(u0, .inr (9, [.ref u1, .ref u2, .ref u3, .ref u4, .ref u5, .ref u6, .int (nI kn), .ref u7, .int (bB ik), .ref u8, .int (nI ty), .ref u9, .int (nI 0), .int (bB iw), .ref u10, .ref u11])), (u8, .inl (tyI D, 60, .inl (nf tx)))]) O hiX9_go_X9 tyX9 tyX9_ok nmX9 0 rfl rfl 12 (by decide) (by decide +kernel) rfl (tyX9_ok 12 (by decide)) rfl rfl (Nat.le_of_ble_eq_true rfl) dX9_go_2 rfl ?_
  refine g_aload_n O dX9_go_5 0 rfl rfl ?_
  refine g_iconst (x := (nI 0)) O dX9_go_6 (by decide +kernel) ?_
  refine g_put (ws' := [(u0, .inr (9, [.ref u1, .ref u2, .ref u3, .ref u4, .ref u5, .ref u6, .int (nI kn), .ref u7, .int (bB ik), .ref u8, .int (nI ty), .ref u9, .int (nI 0), .int (nI 0), .ref u10, .ref u11])), (u8, .inl (tyI D, 60, .inl (nf tx)))]) O hiX9_go_X9 tyX9 tyX9_ok nmX9 0 rfl rfl 13 (by decide) (by decide +kernel) rfl (tyX9_ok 13 (by decide)) (by decide +kernel) (by decide +kernel) (Nat.le_of_ble_eq_true rfl) dX9_go_7 rfl ?_
  refine g_iconst (x := (nI 0)) O dX9_go_10 (by decide +kernel) ?_
  refine g_istore_n (L' := [(0, .ref u0), (1, .int (bB false)), (2, .int (nI 0))]) O dX9_go_11 rfl (by decide) [1, 2, 0] rfl ?_
  refine g_iconst (x := (nI 1)) O dX9_go_12 (by decide +kernel) ?_
  refine g_istore_n (L' := [(0, .ref u0), (1, .int (bB false)), (2, .int (nI 0)), (3, .int (nI 1))]) O dX9_go_13 rfl (by decide) [1, 2, 3, 0] rfl ?_
  refine g_iload_n O dX9_go_14 3 rfl rfl ?_
  refine g_if_eqN (tgt := 294) O (by omega) dX9_go_15 (by decide) (fun c_1 => absurd c_1 (by decide)) (fun c_1 => ?_)
  have J18 : ∀ (n_ : Nat), ∀ (f_ : Nat) (c_ : Nat) (m_ : Nat) (Fs : Nat → Nat) (Fa : Nat → Nat) (Fk : Nat → Nat) (hcc : c_ ≤ ty) (hfu : ty < 3 * f_ + c_) (hR : rdP tx ty f_ c_ Fs Fa Fk m_ = (rdP tx ty 60 0 fs fa fk 0)), f_ < n_ → G X 0 0 18 [(0, .ref u0), (1, .int (bB false)), (2, .int (nI m_)), (3, .int (nI 1))] [] [(u0, .inr (9, [.ref u1, .ref u2, .ref u3, .ref u4, .ref u5, .ref u6, .int (nI kn), .ref u7, .int (bB ik), .ref u8, .int (nI ty), .ref u9, .int (nI c_), .int (bB false), .ref u10, .ref u11])), (u8, .inl (tyI D, 60, .inl (nf tx)))] := by
    intro n_
    induction n_ with
    | zero => intro f_ c_ m_ Fs Fa Fk hcc hfu hR hm_; exact absurd hm_ (Nat.not_lt_zero _)
    | succ n_ ih_ =>
      intro f_ c_ m_ Fs Fa Fk hcc hfu hR hm_
      refine g_aload_n O dX9_go_18 0 rfl rfl ?_
      have J90 : G X 0 0 90 [(0, .ref u0), (1, .int (bB false)), (2, .int (nI m_)), (3, .int (nI 1))] [.int (orN (sdO (chO tx ty c_)))] [(u0, .inr (9, [.ref u1, .ref u2, .ref u3, .ref u4, .ref u5, .ref u6, .int (nI kn), .ref u7, .int (bB ik), .ref u8, .int (nI ty), .ref u9, .int (nI c_), .int (bB false), .ref u10, .ref u11])), (u8, .inl (tyI D, 60, .inl (nf tx)))] := by
        cases hsd : sdO (chO tx ty c_) with
        | none =>
          refine g_eq (st' := [.int (-5)]) rfl rfl rfl ?_
          have hB := rdB_0 hsd
          refine g_istore (L' := [(0, .ref u0), (1, .int (bB false)), (2, .int (nI m_)), (3, .int (nI 1)), (5, .int (-5))]) O dX9_go_90 (by decide) [1, 2, 3, 4, 0] rfl ?_
          refine g_aload_n O dX9_go_92 0 rfl rfl ?_
          refine g_aload_n O dX9_go_93 0 rfl rfl ?_
          refine g_get O hiX9_go_X9 0 rfl rfl 13 (by decide) (by decide +kernel) rfl dX9_go_94 ?_
          refine g_if_neB (tgt := 107) O dX9_go_97 (by decide) (fun c_2 => absurd c_2 (by decide)) (fun c_2 => ?_)
          refine g_iload O dX9_go_100 4 rfl ?_
          refine g_bipush (x := (-5)) O dX9_go_102 (by decide +kernel) ?_
          refine g_icmp_ne (tgt := 111) O dX9_go_104 (by decide) (fun c_3 => absurd c_3 (fun h => h rfl)) (fun c_3 => ?_)
          refine g_iconst (x := (nI 1)) O dX9_go_107 (by decide +kernel) ?_
          refine g_goto (tgt := 112) O dX9_go_108 (by decide) ?_
          refine g_eq (st' := [.int (bB true), .ref u0]) rfl rfl rfl ?_
          refine g_put (ws' := [(u0, .inr (9, [.ref u1, .ref u2, .ref u3, .ref u4, .ref u5, .ref u6, .int (nI kn), .ref u7, .int (bB ik), .ref u8, .int (nI ty), .ref u9, .int (nI c_), .int (bB true), .ref u10, .ref u11])), (u8, .inl (tyI D, 60, .inl (nf tx)))]) O hiX9_go_X9 tyX9 tyX9_ok nmX9 0 rfl rfl 13 (by decide) (by decide +kernel) rfl (tyX9_ok 13 (by decide)) (bB_nn _) (bB_fit _) (Nat.le_of_ble_eq_true rfl) dX9_go_112 rfl ?_
          refine g_aload_n O dX9_go_115 0 rfl rfl ?_
          refine g_dup O dX9_go_116 rfl ?_
          refine g_get O hiX9_go_X9 0 rfl rfl 12 (by decide) (by decide +kernel) rfl dX9_go_117 ?_
          refine g_aload_n O dX9_go_120 0 rfl rfl ?_
          refine g_get O hiX9_go_X9 0 rfl rfl 13 (by decide) (by decide +kernel) rfl dX9_go_121 ?_
          refine g_if_eqB (tgt := 131) O dX9_go_124 (by decide) (fun c_4 => absurd c_4 (by decide)) (fun c_4 => ?_)
          refine g_iconst (x := (nI 0)) O dX9_go_127 (by decide +kernel) ?_
          refine g_goto (tgt := 132) O dX9_go_128 (by decide) ?_
          refine g_iaddN O dX9_go_132 ?_
          refine g_put (ws' := [(u0, .inr (9, [.ref u1, .ref u2, .ref u3, .ref u4, .ref u5, .ref u6, .int (nI kn), .ref u7, .int (bB ik), .ref u8, .int (nI ty), .ref u9, .int (nI (c_ + 0)), .int (bB true), .ref u10, .ref u11])), (u8, .inl (tyI D, 60, .inl (nf tx)))]) O hiX9_go_X9 tyX9 tyX9_ok nmX9 0 rfl rfl 12 (by decide) (by decide +kernel) rfl (tyX9_ok 12 (by decide)) rfl rfl (Nat.le_of_ble_eq_true rfl) dX9_go_133 rfl ?_
          refine g_aload_n O dX9_go_136 0 rfl rfl ?_
          refine g_iconst (x := (nI 0)) O dX9_go_137 (by decide +kernel) ?_
          refine g_bipush (x := (nI 11)) O dX9_go_138 (by decide +kernel) ?_
          refine g_callV (As := [.int (nI 0), .int (nI 11)]) (wr := []) O (kX9_number_w l D z u0 u1 u2 u3 u4 u5 u6 u7 u8 u9 u10 u11 kn ik ty (c_ + 0) tx 0 11 (by first | assumption | omega) (by first | assumption | omega) (by first | assumption | omega) (by first | assumption | omega) (by first | assumption | omega)) gX9_go_X9_number rfl rfl rfl 2 (by decide +kernel) (by decide) (by decide) (q0 := 0) rfl rfl rfl [0, 1] [] rfl (by decide) rfl (by decide) (by decide) rfl rfl (Nat.le_of_ble_eq_true rfl) dX9_go_140 (fun r_5 w_6 hp => ?_)
          obtain ⟨r9_7, rfl, rfl⟩ := hp
          refine g_eq (st' := [.int r9_7]) (ws' := [(u0, .inr (9, [.ref u1, .ref u2, .ref u3, .ref u4, .ref u5, .ref u6, .int (nI kn), .ref u7, .int (bB ik), .ref u8, .int (nI ty), .ref u9, .int (nI (c_ + 0)), .int (bB true), .ref u10, .ref u11])), (u8, .inl (tyI D, 60, .inl (nf tx)))]) rfl rfl rfl ?_
          refine g_istore (L' := [(0, .ref u0), (1, .int (bB false)), (2, .int (nI m_)), (3, .int (nI 1)), (5, .int (-5)), (6, .int r9_7)]) O dX9_go_143 (by decide) [1, 2, 3, 4, 5, 0] rfl ?_
          refine g_aload_n O dX9_go_145 0 rfl rfl ?_
          refine g_get O hiX9_go_X9 0 rfl rfl 13 (by decide) (by decide +kernel) rfl dX9_go_146 ?_
          refine g_if_neB (tgt := 181) O dX9_go_149 (by decide) (fun c_8 => ?_) (fun c_8 => absurd c_8 (by decide))
          refine g_iconst (x := (nI 0)) O dX9_go_181 (by decide +kernel) ?_
          refine g_istore (L' := [(0, .ref u0), (1, .int (bB false)), (2, .int (nI m_)), (3, .int (nI 1)), (5, .int (-5)), (6, .int r9_7), (7, .int (nI 0))]) O dX9_go_182 (by decide) [1, 2, 3, 4, 5, 6, 0] rfl ?_
          refine g_iload O dX9_go_184 6 rfl ?_
          refine g_if_eqN (tgt := 200) O (by omega) dX9_go_186 (by decide) (fun c_9 => ?_) (fun c_9 => absurd c_9 (by decide))
          refine g_iconst (x := (nI 0)) O dX9_go_200 (by decide +kernel) ?_
          refine g_istore (L' := [(0, .ref u0), (1, .int (bB false)), (2, .int (nI m_)), (3, .int (nI 1)), (5, .int (-5)), (6, .int r9_7), (7, .int (nI 0)), (8, .int (nI 0))]) O dX9_go_201 (by decide) [1, 2, 3, 4, 5, 6, 7, 0] rfl ?_
          refine g_iload O dX9_go_203 6 rfl ?_
          refine g_if_eqN (tgt := 218) O (by omega) dX9_go_205 (by decide) (fun c_10 => ?_) (fun c_10 => absurd c_10 (by decide))
          refine g_iconst (x := (nI 1)) O dX9_go_218 (by decide +kernel) ?_
          refine g_istore (L' := [(0, .ref u0), (1, .int (bB false)), (2, .int (nI m_)), (3, .int (nI 1)), (5, .int (-5)), (6, .int r9_7), (7, .int (nI 0)), (8, .int (nI 0)), (9, .int (nI 1))]) O dX9_go_219 (by decide) [1, 2, 3, 4, 5, 6, 7, 8, 0] rfl ?_
          refine g_iload_n O dX9_go_221 1 rfl rfl ?_
          refine g_if_eqB (tgt := 237) O dX9_go_222 (by decide) (fun c_11 => ?_) (fun c_11 => absurd c_11 (by decide))
          have he := rdP_B0 (f := f_ - 1) (n := m_) (fs := Fs) (fa := Fa) (fk := Fk) hB
          rw [show f_ - 1 + 1 = f_ by omega, hR] at he
          refine g_iincN (L' := [(0, .ref u0), (1, .int (bB false)), (2, .int (nI (m_ + 1))), (3, .int (nI 1)), (5, .int (-5)), (6, .int r9_7), (7, .int (nI 0)), (8, .int (nI 0)), (9, .int (nI 1))]) O dX9_go_237 2 rfl (by decide) [1, 2, 0, 3, 4, 5, 6, 7, 8] rfl ?_
          refine g_aload_n O dX9_go_240 0 rfl rfl ?_
          refine g_get O hiX9_go_X9 0 rfl rfl 13 (by decide) (by decide +kernel) rfl dX9_go_241 ?_
          refine g_if_neB (tgt := 262) O dX9_go_244 (by decide) (fun c_12 => ?_) (fun c_12 => absurd c_12 (by decide))
          refine g_iconst (x := (nI 0)) O dX9_go_262 (by decide +kernel) ?_
          refine g_istore_n (L' := [(0, .ref u0), (1, .int (bB false)), (2, .int (nI (m_ + 1))), (3, .int (nI 0)), (5, .int (-5)), (6, .int r9_7), (7, .int (nI 0)), (8, .int (nI 0)), (9, .int (nI 1))]) O dX9_go_263 rfl (by decide) [1, 2, 3, 0, 4, 5, 6, 7, 8] rfl ?_
          refine g_iload_n O dX9_go_264 3 rfl rfl ?_
          refine g_if_eqN (tgt := 291) O (by omega) dX9_go_265 (by decide) (fun c_13 => ?_) (fun c_13 => absurd c_13 (by decide))
          refine g_goto (tgt := 14) O dX9_go_291 (by decide) ?_
          refine g_iload_n O dX9_go_14 3 rfl rfl ?_
          refine g_if_eqN (tgt := 294) O (by omega) dX9_go_15 (by decide) (fun c_14 => ?_) (fun c_14 => absurd c_14 (by decide))
          refine g_iload_n O dX9_go_294 2 rfl rfl ?_
          exact E 295 _ (nI (m_ + 1)) _ dX9_go_295 (by rw [he]; first | exact ⟨_, fun _ => rfl, rfl, rfl⟩ | exact ⟨_, (fun h => by cases h), rfl, rfl⟩)
        | some sd =>
          have hs4 := sdO_lt hsd
          have hcl : c_ < ty := by by_cases h : c_ < ty; exact h; (rw [chO_n h] at hsd; cases hsd)
          refine g_eq (st' := [.int (nI sd)]) rfl rfl rfl ?_
          refine g_istore (L' := [(0, .ref u0), (1, .int (bB false)), (2, .int (nI m_)), (3, .int (nI 1)), (5, .int (nI sd))]) O dX9_go_90 (by decide) [1, 2, 3, 4, 0] rfl ?_
          refine g_aload_n O dX9_go_92 0 rfl rfl ?_
          refine g_aload_n O dX9_go_93 0 rfl rfl ?_
          refine g_get O hiX9_go_X9 0 rfl rfl 13 (by decide) (by decide +kernel) rfl dX9_go_94 ?_
          refine g_if_neB (tgt := 107) O dX9_go_97 (by decide) (fun c_15 => absurd c_15 (by decide)) (fun c_15 => ?_)
          refine g_iload O dX9_go_100 4 rfl ?_
          refine g_bipush (x := (-5)) O dX9_go_102 (by decide +kernel) ?_
          refine g_icmp_ne (tgt := 111) O dX9_go_104 (by decide) (fun c_16 => ?_) (fun c_16 => absurd c_16 (fun e => by have h2 := (nI_toInt (n := sd) (by omega)).symm.trans (congrArg Int32.toInt e); have h3 : (-5 : Int32).toInt = -5 := (by decide +kernel); rw [h3] at h2; omega))
          refine g_iconst (x := (nI 0)) O dX9_go_111 (by decide +kernel) ?_
          refine g_eq (st' := [.int (bB false), .ref u0]) rfl rfl rfl ?_
          refine g_put (ws' := [(u0, .inr (9, [.ref u1, .ref u2, .ref u3, .ref u4, .ref u5, .ref u6, .int (nI kn), .ref u7, .int (bB ik), .ref u8, .int (nI ty), .ref u9, .int (nI c_), .int (bB false), .ref u10, .ref u11])), (u8, .inl (tyI D, 60, .inl (nf tx)))]) O hiX9_go_X9 tyX9 tyX9_ok nmX9 0 rfl rfl 13 (by decide) (by decide +kernel) rfl (tyX9_ok 13 (by decide)) (bB_nn _) (bB_fit _) (Nat.le_of_ble_eq_true rfl) dX9_go_112 rfl ?_
          refine g_aload_n O dX9_go_115 0 rfl rfl ?_
          refine g_dup O dX9_go_116 rfl ?_
          refine g_get O hiX9_go_X9 0 rfl rfl 12 (by decide) (by decide +kernel) rfl dX9_go_117 ?_
          refine g_aload_n O dX9_go_120 0 rfl rfl ?_
          refine g_get O hiX9_go_X9 0 rfl rfl 13 (by decide) (by decide +kernel) rfl dX9_go_121 ?_
          refine g_if_eqB (tgt := 131) O dX9_go_124 (by decide) (fun c_17 => ?_) (fun c_17 => absurd c_17 (by decide))
          refine g_iconst (x := (nI 1)) O dX9_go_131 (by decide +kernel) ?_
          refine g_iaddN O dX9_go_132 ?_
          refine g_put (ws' := [(u0, .inr (9, [.ref u1, .ref u2, .ref u3, .ref u4, .ref u5, .ref u6, .int (nI kn), .ref u7, .int (bB ik), .ref u8, .int (nI ty), .ref u9, .int (nI (c_ + 1)), .int (bB false), .ref u10, .ref u11])), (u8, .inl (tyI D, 60, .inl (nf tx)))]) O hiX9_go_X9 tyX9 tyX9_ok nmX9 0 rfl rfl 12 (by decide) (by decide +kernel) rfl (tyX9_ok 12 (by decide)) rfl rfl (Nat.le_of_ble_eq_true rfl) dX9_go_133 rfl ?_
          refine g_aload_n O dX9_go_136 0 rfl rfl ?_
          refine g_iconst (x := (nI 0)) O dX9_go_137 (by decide +kernel) ?_
          refine g_bipush (x := (nI 11)) O dX9_go_138 (by decide +kernel) ?_
          refine g_callV (As := [.int (nI 0), .int (nI 11)]) (wr := []) O (kX9_number_o l D z u0 u1 u2 u3 u4 u5 u6 u7 u8 u9 u10 u11 kn ik ty (c_ + 1) tx 0 11 (by first | assumption | omega) (by first | assumption | omega) (by first | assumption | omega) (by first | assumption | omega) (by first | assumption | omega) (by first | assumption | omega)) gX9_go_X9_number rfl rfl rfl 2 (by decide +kernel) (by decide) (by decide) (q0 := 0) rfl rfl rfl [0, 1] [] rfl (by decide) rfl (by decide) (by decide) rfl rfl (Nat.le_of_ble_eq_true rfl) dX9_go_140 (fun r_18 w_19 hp => ?_)
          obtain ⟨r9_20, hr9_21, rfl, rfl⟩ := hp
          refine g_eq (st' := [.int r9_20]) (ws' := [(u0, .inr (9, [.ref u1, .ref u2, .ref u3, .ref u4, .ref u5, .ref u6, .int (nI kn), .ref u7, .int (bB ik), .ref u8, .int (nI ty), .ref u9, .int (nI ((rdN tx ty (c_ + 1) 0 11).2)), .int (bB ((rdN tx ty (c_ + 1) 0 11).1.isNone)), .ref u10, .ref u11])), (u8, .inl (tyI D, 60, .inl (nf tx)))]) rfl rfl rfl ?_
          cases hna : (rdN tx ty (c_ + 1) 0 11).1 with
          | none =>
            have hB := rdB_1 hsd (show (rdN tx ty (c_ + 1) 0 11) = (none, (rdN tx ty (c_ + 1) 0 11).2) from Prod.ext hna rfl)
            refine g_eq (ws' := [(u0, .inr (9, [.ref u1, .ref u2, .ref u3, .ref u4, .ref u5, .ref u6, .int (nI kn), .ref u7, .int (bB ik), .ref u8, .int (nI ty), .ref u9, .int (nI ((rdN tx ty (c_ + 1) 0 11).2)), .int (bB true), .ref u10, .ref u11])), (u8, .inl (tyI D, 60, .inl (nf tx)))]) rfl rfl rfl ?_
            refine g_istore (L' := [(0, .ref u0), (1, .int (bB false)), (2, .int (nI m_)), (3, .int (nI 1)), (5, .int (nI sd)), (6, .int r9_20)]) O dX9_go_143 (by decide) [1, 2, 3, 4, 5, 0] rfl ?_
            refine g_aload_n O dX9_go_145 0 rfl rfl ?_
            refine g_get O hiX9_go_X9 0 rfl rfl 13 (by decide) (by decide +kernel) rfl dX9_go_146 ?_
            refine g_if_neB (tgt := 181) O dX9_go_149 (by decide) (fun c_22 => ?_) (fun c_22 => absurd c_22 (by decide))
            refine g_iconst (x := (nI 0)) O dX9_go_181 (by decide +kernel) ?_
            refine g_istore (L' := [(0, .ref u0), (1, .int (bB false)), (2, .int (nI m_)), (3, .int (nI 1)), (5, .int (nI sd)), (6, .int r9_20), (7, .int (nI 0))]) O dX9_go_182 (by decide) [1, 2, 3, 4, 5, 6, 0] rfl ?_
            refine g_iload O dX9_go_184 6 rfl ?_
            refine g_if_eqN (tgt := 200) O (by omega) dX9_go_186 (by decide) (fun c_23 => ?_) (fun c_23 => absurd c_23 (by decide))
            refine g_iconst (x := (nI 0)) O dX9_go_200 (by decide +kernel) ?_
            refine g_istore (L' := [(0, .ref u0), (1, .int (bB false)), (2, .int (nI m_)), (3, .int (nI 1)), (5, .int (nI sd)), (6, .int r9_20), (7, .int (nI 0)), (8, .int (nI 0))]) O dX9_go_201 (by decide) [1, 2, 3, 4, 5, 6, 7, 0] rfl ?_
            refine g_iload O dX9_go_203 6 rfl ?_
            refine g_if_eqN (tgt := 218) O (by omega) dX9_go_205 (by decide) (fun c_24 => ?_) (fun c_24 => absurd c_24 (by decide))
            refine g_iconst (x := (nI 1)) O dX9_go_218 (by decide +kernel) ?_
            refine g_istore (L' := [(0, .ref u0), (1, .int (bB false)), (2, .int (nI m_)), (3, .int (nI 1)), (5, .int (nI sd)), (6, .int r9_20), (7, .int (nI 0)), (8, .int (nI 0)), (9, .int (nI 1))]) O dX9_go_219 (by decide) [1, 2, 3, 4, 5, 6, 7, 8, 0] rfl ?_
            refine g_iload_n O dX9_go_221 1 rfl rfl ?_
            refine g_if_eqB (tgt := 237) O dX9_go_222 (by decide) (fun c_25 => ?_) (fun c_25 => absurd c_25 (by decide))
            have he := rdP_B0 (f := f_ - 1) (n := m_) (fs := Fs) (fa := Fa) (fk := Fk) hB
            rw [show f_ - 1 + 1 = f_ by omega, hR] at he
            refine g_iincN (L' := [(0, .ref u0), (1, .int (bB false)), (2, .int (nI (m_ + 1))), (3, .int (nI 1)), (5, .int (nI sd)), (6, .int r9_20), (7, .int (nI 0)), (8, .int (nI 0)), (9, .int (nI 1))]) O dX9_go_237 2 rfl (by decide) [1, 2, 0, 3, 4, 5, 6, 7, 8] rfl ?_
            refine g_aload_n O dX9_go_240 0 rfl rfl ?_
            refine g_get O hiX9_go_X9 0 rfl rfl 13 (by decide) (by decide +kernel) rfl dX9_go_241 ?_
            refine g_if_neB (tgt := 262) O dX9_go_244 (by decide) (fun c_26 => ?_) (fun c_26 => absurd c_26 (by decide))
            refine g_iconst (x := (nI 0)) O dX9_go_262 (by decide +kernel) ?_
            refine g_istore_n (L' := [(0, .ref u0), (1, .int (bB false)), (2, .int (nI (m_ + 1))), (3, .int (nI 0)), (5, .int (nI sd)), (6, .int r9_20), (7, .int (nI 0)), (8, .int (nI 0)), (9, .int (nI 1))]) O dX9_go_263 rfl (by decide) [1, 2, 3, 0, 4, 5, 6, 7, 8] rfl ?_
            refine g_iload_n O dX9_go_264 3 rfl rfl ?_
            refine g_if_eqN (tgt := 291) O (by omega) dX9_go_265 (by decide) (fun c_27 => ?_) (fun c_27 => absurd c_27 (by decide))
            refine g_goto (tgt := 14) O dX9_go_291 (by decide) ?_
            refine g_iload_n O dX9_go_14 3 rfl rfl ?_
            refine g_if_eqN (tgt := 294) O (by omega) dX9_go_15 (by decide) (fun c_28 => ?_) (fun c_28 => absurd c_28 (by decide))
            refine g_iload_n O dX9_go_294 2 rfl rfl ?_
            exact E 295 _ (nI (m_ + 1)) _ dX9_go_295 (by rw [he]; first | exact ⟨_, fun _ => rfl, rfl, rfl⟩ | exact ⟨_, (fun h => by cases h), rfl, rfl⟩)
          | some al =>
            have hra := hr9_21 al hna
            have hav := rdN_v (by omega) hna
            have hRA : (rdN tx ty (c_ + 1) 0 11) = (some al, (rdN tx ty (c_ + 1) 0 11).2) := Prod.ext hna rfl
            generalize (rdN tx ty (c_ + 1) 0 11).2 = c1 at *
            refine g_eq (st' := [.int (nI al)]) (ws' := [(u0, .inr (9, [.ref u1, .ref u2, .ref u3, .ref u4, .ref u5, .ref u6, .int (nI kn), .ref u7, .int (bB ik), .ref u8, .int (nI ty), .ref u9, .int (nI c1), .int (bB false), .ref u10, .ref u11])), (u8, .inl (tyI D, 60, .inl (nf tx)))]) (by rw [hra]) rfl rfl ?_
            refine g_istore (L' := [(0, .ref u0), (1, .int (bB false)), (2, .int (nI m_)), (3, .int (nI 1)), (5, .int (nI sd)), (6, .int (nI al))]) O dX9_go_143 (by decide) [1, 2, 3, 4, 5, 0] rfl ?_
            refine g_aload_n O dX9_go_145 0 rfl rfl ?_
            refine g_get O hiX9_go_X9 0 rfl rfl 13 (by decide) (by decide +kernel) rfl dX9_go_146 ?_
            refine g_if_neB (tgt := 181) O dX9_go_149 (by decide) (fun c_29 => absurd c_29 (by decide)) (fun c_29 => ?_)
            refine g_aload_n O dX9_go_152 0 rfl rfl ?_
            refine g_get O hiX9_go_X9 0 rfl rfl 12 (by decide) (by decide +kernel) rfl dX9_go_153 ?_
            refine g_aload_n O dX9_go_156 0 rfl rfl ?_
            refine g_get O hiX9_go_X9 0 rfl rfl 10 (by decide) (by decide +kernel) rfl dX9_go_157 ?_
            refine g_icmp_geN (tgt := 181) O (by omega) (by omega) dX9_go_160 (by decide) (fun c_30 => ?_) (fun c_30 => ?_)
            ·
              have hB := rdB_2 hsd hRA (fun h => by omega)
              refine g_iconst (x := (nI 0)) O dX9_go_181 (by decide +kernel) ?_
              refine g_istore (L' := [(0, .ref u0), (1, .int (bB false)), (2, .int (nI m_)), (3, .int (nI 1)), (5, .int (nI sd)), (6, .int (nI al)), (7, .int (nI 0))]) O dX9_go_182 (by decide) [1, 2, 3, 4, 5, 6, 0] rfl ?_
              refine g_iload O dX9_go_184 6 rfl ?_
              refine g_if_eqN (tgt := 200) O (by omega) dX9_go_186 (by decide) (fun c_31 => ?_) (fun c_31 => absurd c_31 (by decide))
              refine g_iconst (x := (nI 0)) O dX9_go_200 (by decide +kernel) ?_
              refine g_istore (L' := [(0, .ref u0), (1, .int (bB false)), (2, .int (nI m_)), (3, .int (nI 1)), (5, .int (nI sd)), (6, .int (nI al)), (7, .int (nI 0)), (8, .int (nI 0))]) O dX9_go_201 (by decide) [1, 2, 3, 4, 5, 6, 7, 0] rfl ?_
              refine g_iload O dX9_go_203 6 rfl ?_
              refine g_if_eqN (tgt := 218) O (by omega) dX9_go_205 (by decide) (fun c_32 => ?_) (fun c_32 => absurd c_32 (by decide))
              refine g_iconst (x := (nI 1)) O dX9_go_218 (by decide +kernel) ?_
              refine g_istore (L' := [(0, .ref u0), (1, .int (bB false)), (2, .int (nI m_)), (3, .int (nI 1)), (5, .int (nI sd)), (6, .int (nI al)), (7, .int (nI 0)), (8, .int (nI 0)), (9, .int (nI 1))]) O dX9_go_219 (by decide) [1, 2, 3, 4, 5, 6, 7, 8, 0] rfl ?_
              refine g_iload_n O dX9_go_221 1 rfl rfl ?_
              refine g_if_eqB (tgt := 237) O dX9_go_222 (by decide) (fun c_33 => ?_) (fun c_33 => absurd c_33 (by decide))
              have hBs := rdB_s hB
              refine g_iincN (L' := [(0, .ref u0), (1, .int (bB false)), (2, .int (nI (m_ + 1))), (3, .int (nI 1)), (5, .int (nI sd)), (6, .int (nI al)), (7, .int (nI 0)), (8, .int (nI 0)), (9, .int (nI 1))]) O dX9_go_237 2 rfl (by decide) [1, 2, 0, 3, 4, 5, 6, 7, 8] rfl ?_
              refine g_aload_n O dX9_go_240 0 rfl rfl ?_
              refine g_get O hiX9_go_X9 0 rfl rfl 13 (by decide) (by decide +kernel) rfl dX9_go_241 ?_
              refine g_if_neB (tgt := 262) O dX9_go_244 (by decide) (fun c_34 => absurd c_34 (by decide)) (fun c_34 => ?_)
              refine g_aload_n O dX9_go_247 0 rfl rfl ?_
              refine g_get O hiX9_go_X9 0 rfl rfl 12 (by decide) (by decide +kernel) rfl dX9_go_248 ?_
              refine g_aload_n O dX9_go_251 0 rfl rfl ?_
              refine g_get O hiX9_go_X9 0 rfl rfl 10 (by decide) (by decide +kernel) rfl dX9_go_252 ?_
              refine g_icmp_geN (tgt := 262) O (by omega) (by omega) dX9_go_255 (by decide) (fun c_35 => ?_) (fun c_35 => ?_)
              ·
                have he := rdP_Be (f := f_ - 1) (n := m_) (fs := Fs) (fa := Fa) (fk := Fk) hB (by omega)
                rw [show f_ - 1 + 1 = f_ by omega, hR] at he
                refine g_iconst (x := (nI 0)) O dX9_go_262 (by decide +kernel) ?_
                refine g_istore_n (L' := [(0, .ref u0), (1, .int (bB false)), (2, .int (nI (m_ + 1))), (3, .int (nI 0)), (5, .int (nI sd)), (6, .int (nI al)), (7, .int (nI 0)), (8, .int (nI 0)), (9, .int (nI 1))]) O dX9_go_263 rfl (by decide) [1, 2, 3, 0, 4, 5, 6, 7, 8] rfl ?_
                refine g_iload_n O dX9_go_264 3 rfl rfl ?_
                refine g_if_eqN (tgt := 291) O (by omega) dX9_go_265 (by decide) (fun c_36 => ?_) (fun c_36 => absurd c_36 (by decide))
                refine g_goto (tgt := 14) O dX9_go_291 (by decide) ?_
                refine g_iload_n O dX9_go_14 3 rfl rfl ?_
                refine g_if_eqN (tgt := 294) O (by omega) dX9_go_15 (by decide) (fun c_37 => ?_) (fun c_37 => absurd c_37 (by decide))
                refine g_iload_n O dX9_go_294 2 rfl rfl ?_
                exact E 295 _ (nI (m_ + 1)) _ dX9_go_295 (by rw [he]; first | exact ⟨_, fun _ => rfl, rfl, rfl⟩ | exact ⟨_, (fun h => by cases h), rfl, rfl⟩)
              ·
                refine g_iconst (x := (nI 1)) O dX9_go_258 (by decide +kernel) ?_
                refine g_goto (tgt := 263) O dX9_go_259 (by decide) ?_
                refine g_istore_n (L' := [(0, .ref u0), (1, .int (bB false)), (2, .int (nI (m_ + 1))), (3, .int (nI 1)), (5, .int (nI sd)), (6, .int (nI al)), (7, .int (nI 0)), (8, .int (nI 0)), (9, .int (nI 1))]) O dX9_go_263 rfl (by decide) [1, 2, 3, 0, 4, 5, 6, 7, 8] rfl ?_
                refine g_iload_n O dX9_go_264 3 rfl rfl ?_
                refine g_if_eqN (tgt := 291) O (by omega) dX9_go_265 (by decide) (fun c_38 => absurd c_38 (by decide)) (fun c_38 => ?_)
                have hce : c1 < ty := by omega
                refine g_aload_n O dX9_go_268 0 rfl rfl ?_
                refine g_bipush (x := (nI 44)) O dX9_go_269 (by decide +kernel) ?_
                refine g_bipush (x := (nI 44)) O dX9_go_271 (by decide +kernel) ?_
                refine g_callV (As := [.int (nI 44), .int (nI 44)]) (wr := []) O (kX9_sign l D z u0 u1 u2 u3 u4 u5 u6 u7 u8 u9 u10 u11 kn ik ty c1 false tx 44 44 (by first | assumption | omega) (by first | assumption | omega) (by first | assumption | omega) (by first | assumption | omega) (by first | assumption | omega)) gX9_go_X9_sign rfl rfl rfl 2 (by decide +kernel) (by decide) (by decide) (q0 := 0) rfl rfl rfl [0, 1] [] rfl (by decide) rfl (by decide) (by decide) rfl rfl (Nat.le_of_ble_eq_true rfl) dX9_go_273 (fun r_39 w_40 hp => ?_)
                obtain ⟨rfl, rfl⟩ := hp
                refine g_eq (st' := [.int (nI (chV tx ty c1))]) (ws' := [(u0, .inr (9, [.ref u1, .ref u2, .ref u3, .ref u4, .ref u5, .ref u6, .int (nI kn), .ref u7, .int (bB ik), .ref u8, .int (nI ty), .ref u9, .int (nI (sgA tx ty c1 false 44 44)), .int (bB (sgW tx ty c1 false 44 44)), .ref u10, .ref u11])), (u8, .inl (tyI D, 60, .inl (nf tx)))]) rfl rfl rfl ?_
                by_cases hx44 : tx c1 = 44
                ·
                  obtain ⟨y1, y2, y3⟩ := sg_ok (tx := tx) (lo := 44) (hi := 44) hce (by omega) (by omega)
                  refine g_eq (ws' := [(u0, .inr (9, [.ref u1, .ref u2, .ref u3, .ref u4, .ref u5, .ref u6, .int (nI kn), .ref u7, .int (bB ik), .ref u8, .int (nI ty), .ref u9, .int (nI (c1 + 1)), .int (bB false), .ref u10, .ref u11])), (u8, .inl (tyI D, 60, .inl (nf tx)))]) rfl rfl (by rw [y1, y2]) ?_
                  have he := rdP_Bc (f := f_ - 1) (n := m_) (fs := Fs) (fa := Fa) (fk := Fk) hB hce hx44
                  rw [show f_ - 1 + 1 = f_ by omega, hR] at he
                  refine g_istore (L' := [(0, .ref u0), (1, .int (bB false)), (2, .int (nI (m_ + 1))), (3, .int (nI 1)), (5, .int (nI sd)), (6, .int (nI al)), (7, .int (nI 0)), (8, .int (nI 0)), (9, .int (nI 1)), (10, .int (nI (chV tx ty c1)))]) O dX9_go_276 (by decide) [1, 2, 3, 4, 5, 6, 7, 8, 9, 0] rfl ?_
                  refine g_aload_n O dX9_go_278 0 rfl rfl ?_
                  refine g_get O hiX9_go_X9 0 rfl rfl 13 (by decide) (by decide +kernel) rfl dX9_go_279 ?_
                  refine g_if_neB (tgt := 289) O dX9_go_282 (by decide) (fun c_41 => absurd c_41 (by decide)) (fun c_41 => ?_)
                  refine g_iconst (x := (nI 1)) O dX9_go_285 (by decide +kernel) ?_
                  refine g_goto (tgt := 290) O dX9_go_286 (by decide) ?_
                  refine g_istore_n (L' := [(0, .ref u0), (1, .int (bB false)), (2, .int (nI (m_ + 1))), (3, .int (nI 1)), (5, .int (nI sd)), (6, .int (nI al)), (7, .int (nI 0)), (8, .int (nI 0)), (9, .int (nI 1)), (10, .int (nI (chV tx ty c1)))]) O dX9_go_290 rfl (by decide) [1, 2, 3, 0, 4, 5, 6, 7, 8, 9] rfl ?_
                  refine g_goto (tgt := 14) O dX9_go_291 (by decide) ?_
                  refine g_iload_n O dX9_go_14 3 rfl rfl ?_
                  refine g_if_eqN (tgt := 294) O (by omega) dX9_go_15 (by decide) (fun c_42 => absurd c_42 (by decide)) (fun c_42 => ?_)
                  refine g_locals (L' := [(0, .ref u0), (1, .int (bB false)), (2, .int (nI (m_ + 1))), (3, .int (nI 1))]) [0, 1, 2, 3] rfl ?_
                  exact ih_ (f_ - 1) (c1 + 1) (m_ + 1) (upf Fs m_ sd) (upf Fa m_ al) (upf Fk m_ 1) (by omega) (by omega) (he.symm) (by omega)
                ·
                  have he := rdP_Bn (f := f_ - 1) (n := m_) (fs := Fs) (fa := Fa) (fk := Fk) hB hce hx44
                  rw [show f_ - 1 + 1 = f_ by omega, hR] at he
                  have hsw : sgW tx ty c1 false 44 44 = true := by cases hh : sgW tx ty c1 false 44 44; (exfalso; obtain ⟨z1, z2, z3, z4, z5⟩ := sg_t (by omega) hh; omega); rfl
                  refine g_eq (ws' := [(u0, .inr (9, [.ref u1, .ref u2, .ref u3, .ref u4, .ref u5, .ref u6, .int (nI kn), .ref u7, .int (bB ik), .ref u8, .int (nI ty), .ref u9, .int (nI c1), .int (bB true), .ref u10, .ref u11])), (u8, .inl (tyI D, 60, .inl (nf tx)))]) rfl rfl (by rw [(sg_f hsw).2, hsw]) ?_
                  refine g_istore (L' := [(0, .ref u0), (1, .int (bB false)), (2, .int (nI (m_ + 1))), (3, .int (nI 1)), (5, .int (nI sd)), (6, .int (nI al)), (7, .int (nI 0)), (8, .int (nI 0)), (9, .int (nI 1)), (10, .int (nI (chV tx ty c1)))]) O dX9_go_276 (by decide) [1, 2, 3, 4, 5, 6, 7, 8, 9, 0] rfl ?_
                  refine g_aload_n O dX9_go_278 0 rfl rfl ?_
                  refine g_get O hiX9_go_X9 0 rfl rfl 13 (by decide) (by decide +kernel) rfl dX9_go_279 ?_
                  refine g_if_neB (tgt := 289) O dX9_go_282 (by decide) (fun c_43 => ?_) (fun c_43 => absurd c_43 (by decide))
                  refine g_iconst (x := (nI 0)) O dX9_go_289 (by decide +kernel) ?_
                  refine g_istore_n (L' := [(0, .ref u0), (1, .int (bB false)), (2, .int (nI (m_ + 1))), (3, .int (nI 0)), (5, .int (nI sd)), (6, .int (nI al)), (7, .int (nI 0)), (8, .int (nI 0)), (9, .int (nI 1)), (10, .int (nI (chV tx ty c1)))]) O dX9_go_290 rfl (by decide) [1, 2, 3, 0, 4, 5, 6, 7, 8, 9] rfl ?_
                  refine g_goto (tgt := 14) O dX9_go_291 (by decide) ?_
                  refine g_iload_n O dX9_go_14 3 rfl rfl ?_
                  refine g_if_eqN (tgt := 294) O (by omega) dX9_go_15 (by decide) (fun c_44 => ?_) (fun c_44 => absurd c_44 (by decide))
                  refine g_iload_n O dX9_go_294 2 rfl rfl ?_
                  exact E 295 _ (nI (m_ + 1)) _ dX9_go_295 (by rw [he]; first | exact ⟨_, fun _ => rfl, rfl, rfl⟩ | exact ⟨_, (fun h => by cases h), rfl, rfl⟩)
            ·
              have hc1 : c1 < ty := by omega
              have htc1 := htx c1 hc1
              refine g_aload_n O dX9_go_163 0 rfl rfl ?_
              refine g_get O hiX9_go_X9 0 rfl rfl 9 (by decide) (by decide +kernel) rfl dX9_go_164 ?_
              refine g_aload_n O dX9_go_167 0 rfl rfl ?_
              refine g_get O hiX9_go_X9 0 rfl rfl 12 (by decide) (by decide +kernel) rfl dX9_go_168 ?_
              refine g_ialdN O 1 rfl (by omega) (by omega) dX9_go_171 ?_
              refine g_bipush (x := (nI 120)) O dX9_go_172 (by decide +kernel) ?_
              refine g_icmp_neN (tgt := 181) O (by omega) (by omega) dX9_go_174 (by decide) (fun c_45 => ?_) (fun c_45 => ?_)
              ·
                have hB := rdB_2 hsd hRA (fun h => absurd h.2 c_45)
                refine g_iconst (x := (nI 0)) O dX9_go_181 (by decide +kernel) ?_
                refine g_istore (L' := [(0, .ref u0), (1, .int (bB false)), (2, .int (nI m_)), (3, .int (nI 1)), (5, .int (nI sd)), (6, .int (nI al)), (7, .int (nI 0))]) O dX9_go_182 (by decide) [1, 2, 3, 4, 5, 6, 0] rfl ?_
                refine g_iload O dX9_go_184 6 rfl ?_
                refine g_if_eqN (tgt := 200) O (by omega) dX9_go_186 (by decide) (fun c_46 => ?_) (fun c_46 => absurd c_46 (by decide))
                refine g_iconst (x := (nI 0)) O dX9_go_200 (by decide +kernel) ?_
                refine g_istore (L' := [(0, .ref u0), (1, .int (bB false)), (2, .int (nI m_)), (3, .int (nI 1)), (5, .int (nI sd)), (6, .int (nI al)), (7, .int (nI 0)), (8, .int (nI 0))]) O dX9_go_201 (by decide) [1, 2, 3, 4, 5, 6, 7, 0] rfl ?_
                refine g_iload O dX9_go_203 6 rfl ?_
                refine g_if_eqN (tgt := 218) O (by omega) dX9_go_205 (by decide) (fun c_47 => ?_) (fun c_47 => absurd c_47 (by decide))
                refine g_iconst (x := (nI 1)) O dX9_go_218 (by decide +kernel) ?_
                refine g_istore (L' := [(0, .ref u0), (1, .int (bB false)), (2, .int (nI m_)), (3, .int (nI 1)), (5, .int (nI sd)), (6, .int (nI al)), (7, .int (nI 0)), (8, .int (nI 0)), (9, .int (nI 1))]) O dX9_go_219 (by decide) [1, 2, 3, 4, 5, 6, 7, 8, 0] rfl ?_
                refine g_iload_n O dX9_go_221 1 rfl rfl ?_
                refine g_if_eqB (tgt := 237) O dX9_go_222 (by decide) (fun c_48 => ?_) (fun c_48 => absurd c_48 (by decide))
                have hBs := rdB_s hB
                refine g_iincN (L' := [(0, .ref u0), (1, .int (bB false)), (2, .int (nI (m_ + 1))), (3, .int (nI 1)), (5, .int (nI sd)), (6, .int (nI al)), (7, .int (nI 0)), (8, .int (nI 0)), (9, .int (nI 1))]) O dX9_go_237 2 rfl (by decide) [1, 2, 0, 3, 4, 5, 6, 7, 8] rfl ?_
                refine g_aload_n O dX9_go_240 0 rfl rfl ?_
                refine g_get O hiX9_go_X9 0 rfl rfl 13 (by decide) (by decide +kernel) rfl dX9_go_241 ?_
                refine g_if_neB (tgt := 262) O dX9_go_244 (by decide) (fun c_49 => absurd c_49 (by decide)) (fun c_49 => ?_)
                refine g_aload_n O dX9_go_247 0 rfl rfl ?_
                refine g_get O hiX9_go_X9 0 rfl rfl 12 (by decide) (by decide +kernel) rfl dX9_go_248 ?_
                refine g_aload_n O dX9_go_251 0 rfl rfl ?_
                refine g_get O hiX9_go_X9 0 rfl rfl 10 (by decide) (by decide +kernel) rfl dX9_go_252 ?_
                refine g_icmp_geN (tgt := 262) O (by omega) (by omega) dX9_go_255 (by decide) (fun c_50 => ?_) (fun c_50 => ?_)
                ·
                  have he := rdP_Be (f := f_ - 1) (n := m_) (fs := Fs) (fa := Fa) (fk := Fk) hB (by omega)
                  rw [show f_ - 1 + 1 = f_ by omega, hR] at he
                  refine g_iconst (x := (nI 0)) O dX9_go_262 (by decide +kernel) ?_
                  refine g_istore_n (L' := [(0, .ref u0), (1, .int (bB false)), (2, .int (nI (m_ + 1))), (3, .int (nI 0)), (5, .int (nI sd)), (6, .int (nI al)), (7, .int (nI 0)), (8, .int (nI 0)), (9, .int (nI 1))]) O dX9_go_263 rfl (by decide) [1, 2, 3, 0, 4, 5, 6, 7, 8] rfl ?_
                  refine g_iload_n O dX9_go_264 3 rfl rfl ?_
                  refine g_if_eqN (tgt := 291) O (by omega) dX9_go_265 (by decide) (fun c_51 => ?_) (fun c_51 => absurd c_51 (by decide))
                  refine g_goto (tgt := 14) O dX9_go_291 (by decide) ?_
                  refine g_iload_n O dX9_go_14 3 rfl rfl ?_
                  refine g_if_eqN (tgt := 294) O (by omega) dX9_go_15 (by decide) (fun c_52 => ?_) (fun c_52 => absurd c_52 (by decide))
                  refine g_iload_n O dX9_go_294 2 rfl rfl ?_
                  exact E 295 _ (nI (m_ + 1)) _ dX9_go_295 (by rw [he]; first | exact ⟨_, fun _ => rfl, rfl, rfl⟩ | exact ⟨_, (fun h => by cases h), rfl, rfl⟩)
                ·
                  refine g_iconst (x := (nI 1)) O dX9_go_258 (by decide +kernel) ?_
                  refine g_goto (tgt := 263) O dX9_go_259 (by decide) ?_
                  refine g_istore_n (L' := [(0, .ref u0), (1, .int (bB false)), (2, .int (nI (m_ + 1))), (3, .int (nI 1)), (5, .int (nI sd)), (6, .int (nI al)), (7, .int (nI 0)), (8, .int (nI 0)), (9, .int (nI 1))]) O dX9_go_263 rfl (by decide) [1, 2, 3, 0, 4, 5, 6, 7, 8] rfl ?_
                  refine g_iload_n O dX9_go_264 3 rfl rfl ?_
                  refine g_if_eqN (tgt := 291) O (by omega) dX9_go_265 (by decide) (fun c_53 => absurd c_53 (by decide)) (fun c_53 => ?_)
                  have hce : c1 < ty := by omega
                  refine g_aload_n O dX9_go_268 0 rfl rfl ?_
                  refine g_bipush (x := (nI 44)) O dX9_go_269 (by decide +kernel) ?_
                  refine g_bipush (x := (nI 44)) O dX9_go_271 (by decide +kernel) ?_
                  refine g_callV (As := [.int (nI 44), .int (nI 44)]) (wr := []) O (kX9_sign l D z u0 u1 u2 u3 u4 u5 u6 u7 u8 u9 u10 u11 kn ik ty c1 false tx 44 44 (by first | assumption | omega) (by first | assumption | omega) (by first | assumption | omega) (by first | assumption | omega) (by first | assumption | omega)) gX9_go_X9_sign rfl rfl rfl 2 (by decide +kernel) (by decide) (by decide) (q0 := 0) rfl rfl rfl [0, 1] [] rfl (by decide) rfl (by decide) (by decide) rfl rfl (Nat.le_of_ble_eq_true rfl) dX9_go_273 (fun r_54 w_55 hp => ?_)
                  obtain ⟨rfl, rfl⟩ := hp
                  refine g_eq (st' := [.int (nI (chV tx ty c1))]) (ws' := [(u0, .inr (9, [.ref u1, .ref u2, .ref u3, .ref u4, .ref u5, .ref u6, .int (nI kn), .ref u7, .int (bB ik), .ref u8, .int (nI ty), .ref u9, .int (nI (sgA tx ty c1 false 44 44)), .int (bB (sgW tx ty c1 false 44 44)), .ref u10, .ref u11])), (u8, .inl (tyI D, 60, .inl (nf tx)))]) rfl rfl rfl ?_
                  by_cases hx44 : tx c1 = 44
                  ·
                    obtain ⟨y1, y2, y3⟩ := sg_ok (tx := tx) (lo := 44) (hi := 44) hce (by omega) (by omega)
                    refine g_eq (ws' := [(u0, .inr (9, [.ref u1, .ref u2, .ref u3, .ref u4, .ref u5, .ref u6, .int (nI kn), .ref u7, .int (bB ik), .ref u8, .int (nI ty), .ref u9, .int (nI (c1 + 1)), .int (bB false), .ref u10, .ref u11])), (u8, .inl (tyI D, 60, .inl (nf tx)))]) rfl rfl (by rw [y1, y2]) ?_
                    have he := rdP_Bc (f := f_ - 1) (n := m_) (fs := Fs) (fa := Fa) (fk := Fk) hB hce hx44
                    rw [show f_ - 1 + 1 = f_ by omega, hR] at he
                    refine g_istore (L' := [(0, .ref u0), (1, .int (bB false)), (2, .int (nI (m_ + 1))), (3, .int (nI 1)), (5, .int (nI sd)), (6, .int (nI al)), (7, .int (nI 0)), (8, .int (nI 0)), (9, .int (nI 1)), (10, .int (nI (chV tx ty c1)))]) O dX9_go_276 (by decide) [1, 2, 3, 4, 5, 6, 7, 8, 9, 0] rfl ?_
                    refine g_aload_n O dX9_go_278 0 rfl rfl ?_
                    refine g_get O hiX9_go_X9 0 rfl rfl 13 (by decide) (by decide +kernel) rfl dX9_go_279 ?_
                    refine g_if_neB (tgt := 289) O dX9_go_282 (by decide) (fun c_56 => absurd c_56 (by decide)) (fun c_56 => ?_)
                    refine g_iconst (x := (nI 1)) O dX9_go_285 (by decide +kernel) ?_
                    refine g_goto (tgt := 290) O dX9_go_286 (by decide) ?_
                    refine g_istore_n (L' := [(0, .ref u0), (1, .int (bB false)), (2, .int (nI (m_ + 1))), (3, .int (nI 1)), (5, .int (nI sd)), (6, .int (nI al)), (7, .int (nI 0)), (8, .int (nI 0)), (9, .int (nI 1)), (10, .int (nI (chV tx ty c1)))]) O dX9_go_290 rfl (by decide) [1, 2, 3, 0, 4, 5, 6, 7, 8, 9] rfl ?_
                    refine g_goto (tgt := 14) O dX9_go_291 (by decide) ?_
                    refine g_iload_n O dX9_go_14 3 rfl rfl ?_
                    refine g_if_eqN (tgt := 294) O (by omega) dX9_go_15 (by decide) (fun c_57 => absurd c_57 (by decide)) (fun c_57 => ?_)
                    refine g_locals (L' := [(0, .ref u0), (1, .int (bB false)), (2, .int (nI (m_ + 1))), (3, .int (nI 1))]) [0, 1, 2, 3] rfl ?_
                    exact ih_ (f_ - 1) (c1 + 1) (m_ + 1) (upf Fs m_ sd) (upf Fa m_ al) (upf Fk m_ 1) (by omega) (by omega) (he.symm) (by omega)
                  ·
                    have he := rdP_Bn (f := f_ - 1) (n := m_) (fs := Fs) (fa := Fa) (fk := Fk) hB hce hx44
                    rw [show f_ - 1 + 1 = f_ by omega, hR] at he
                    have hsw : sgW tx ty c1 false 44 44 = true := by cases hh : sgW tx ty c1 false 44 44; (exfalso; obtain ⟨z1, z2, z3, z4, z5⟩ := sg_t (by omega) hh; omega); rfl
                    refine g_eq (ws' := [(u0, .inr (9, [.ref u1, .ref u2, .ref u3, .ref u4, .ref u5, .ref u6, .int (nI kn), .ref u7, .int (bB ik), .ref u8, .int (nI ty), .ref u9, .int (nI c1), .int (bB true), .ref u10, .ref u11])), (u8, .inl (tyI D, 60, .inl (nf tx)))]) rfl rfl (by rw [(sg_f hsw).2, hsw]) ?_
                    refine g_istore (L' := [(0, .ref u0), (1, .int (bB false)), (2, .int (nI (m_ + 1))), (3, .int (nI 1)), (5, .int (nI sd)), (6, .int (nI al)), (7, .int (nI 0)), (8, .int (nI 0)), (9, .int (nI 1)), (10, .int (nI (chV tx ty c1)))]) O dX9_go_276 (by decide) [1, 2, 3, 4, 5, 6, 7, 8, 9, 0] rfl ?_
                    refine g_aload_n O dX9_go_278 0 rfl rfl ?_
                    refine g_get O hiX9_go_X9 0 rfl rfl 13 (by decide) (by decide +kernel) rfl dX9_go_279 ?_
                    refine g_if_neB (tgt := 289) O dX9_go_282 (by decide) (fun c_58 => ?_) (fun c_58 => absurd c_58 (by decide))
                    refine g_iconst (x := (nI 0)) O dX9_go_289 (by decide +kernel) ?_
                    refine g_istore_n (L' := [(0, .ref u0), (1, .int (bB false)), (2, .int (nI (m_ + 1))), (3, .int (nI 0)), (5, .int (nI sd)), (6, .int (nI al)), (7, .int (nI 0)), (8, .int (nI 0)), (9, .int (nI 1)), (10, .int (nI (chV tx ty c1)))]) O dX9_go_290 rfl (by decide) [1, 2, 3, 0, 4, 5, 6, 7, 8, 9] rfl ?_
                    refine g_goto (tgt := 14) O dX9_go_291 (by decide) ?_
                    refine g_iload_n O dX9_go_14 3 rfl rfl ?_
                    refine g_if_eqN (tgt := 294) O (by omega) dX9_go_15 (by decide) (fun c_59 => ?_) (fun c_59 => absurd c_59 (by decide))
                    refine g_iload_n O dX9_go_294 2 rfl rfl ?_
                    exact E 295 _ (nI (m_ + 1)) _ dX9_go_295 (by rw [he]; first | exact ⟨_, fun _ => rfl, rfl, rfl⟩ | exact ⟨_, (fun h => by cases h), rfl, rfl⟩)
              ·
                have hx := c_45
                refine g_iconst (x := (nI 1)) O dX9_go_177 (by decide +kernel) ?_
                refine g_goto (tgt := 182) O dX9_go_178 (by decide) ?_
                refine g_istore (L' := [(0, .ref u0), (1, .int (bB false)), (2, .int (nI m_)), (3, .int (nI 1)), (5, .int (nI sd)), (6, .int (nI al)), (7, .int (nI 1))]) O dX9_go_182 (by decide) [1, 2, 3, 4, 5, 6, 0] rfl ?_
                refine g_iload O dX9_go_184 6 rfl ?_
                refine g_if_eqN (tgt := 200) O (by omega) dX9_go_186 (by decide) (fun c_60 => absurd c_60 (by decide)) (fun c_60 => ?_)
                refine g_aload_n O dX9_go_189 0 rfl rfl ?_
                refine g_bipush (x := (nI 120)) O dX9_go_190 (by decide +kernel) ?_
                refine g_bipush (x := (nI 120)) O dX9_go_192 (by decide +kernel) ?_
                refine g_callV (As := [.int (nI 120), .int (nI 120)]) (wr := []) O (kX9_sign l D z u0 u1 u2 u3 u4 u5 u6 u7 u8 u9 u10 u11 kn ik ty c1 false tx 120 120 (by first | assumption | omega) (by first | assumption | omega) (by first | assumption | omega) (by first | assumption | omega) (by first | assumption | omega)) gX9_go_X9_sign rfl rfl rfl 2 (by decide +kernel) (by decide) (by decide) (q0 := 0) rfl rfl rfl [0, 1] [] rfl (by decide) rfl (by decide) (by decide) rfl rfl (Nat.le_of_ble_eq_true rfl) dX9_go_194 (fun r_61 w_62 hp => ?_)
                obtain ⟨rfl, rfl⟩ := hp
                refine g_eq (st' := [.int (nI (chV tx ty c1))]) (ws' := [(u0, .inr (9, [.ref u1, .ref u2, .ref u3, .ref u4, .ref u5, .ref u6, .int (nI kn), .ref u7, .int (bB ik), .ref u8, .int (nI ty), .ref u9, .int (nI (sgA tx ty c1 false 120 120)), .int (bB (sgW tx ty c1 false 120 120)), .ref u10, .ref u11])), (u8, .inl (tyI D, 60, .inl (nf tx)))]) rfl rfl rfl ?_
                obtain ⟨v1, v2, v3⟩ := sg_ok (tx := tx) (lo := 120) (hi := 120) hc1 (by omega) (by omega)
                refine g_eq (st' := [.int (nI (tx c1))]) (ws' := [(u0, .inr (9, [.ref u1, .ref u2, .ref u3, .ref u4, .ref u5, .ref u6, .int (nI kn), .ref u7, .int (bB ik), .ref u8, .int (nI ty), .ref u9, .int (nI (c1 + 1)), .int (bB false), .ref u10, .ref u11])), (u8, .inl (tyI D, 60, .inl (nf tx)))]) (by rw [v3]) rfl (by rw [v1, v2]) ?_
                refine g_goto (tgt := 201) O dX9_go_197 (by decide) ?_
                refine g_istore (L' := [(0, .ref u0), (1, .int (bB false)), (2, .int (nI m_)), (3, .int (nI 1)), (5, .int (nI sd)), (6, .int (nI al)), (7, .int (nI 1)), (8, .int (nI (tx c1)))]) O dX9_go_201 (by decide) [1, 2, 3, 4, 5, 6, 7, 0] rfl ?_
                refine g_iload O dX9_go_203 6 rfl ?_
                refine g_if_eqN (tgt := 218) O (by omega) dX9_go_205 (by decide) (fun c_63 => absurd c_63 (by decide)) (fun c_63 => ?_)
                refine g_aload_n O dX9_go_208 0 rfl rfl ?_
                refine g_iconst (x := (nI 1)) O dX9_go_209 (by decide +kernel) ?_
                refine g_bipush (x := (nI 20)) O dX9_go_210 (by decide +kernel) ?_
                refine g_callV (As := [.int (nI 1), .int (nI 20)]) (wr := []) O (kX9_number_o l D z u0 u1 u2 u3 u4 u5 u6 u7 u8 u9 u10 u11 kn ik ty (c1 + 1) tx 1 20 (by first | assumption | omega) (by first | assumption | omega) (by first | assumption | omega) (by first | assumption | omega) (by first | assumption | omega) (by first | assumption | omega)) gX9_go_X9_number rfl rfl rfl 2 (by decide +kernel) (by decide) (by decide) (q0 := 0) rfl rfl rfl [0, 1] [] rfl (by decide) rfl (by decide) (by decide) rfl rfl (Nat.le_of_ble_eq_true rfl) dX9_go_212 (fun r_64 w_65 hp => ?_)
                obtain ⟨r9_66, hr9_67, rfl, rfl⟩ := hp
                refine g_eq (st' := [.int r9_66]) (ws' := [(u0, .inr (9, [.ref u1, .ref u2, .ref u3, .ref u4, .ref u5, .ref u6, .int (nI kn), .ref u7, .int (bB ik), .ref u8, .int (nI ty), .ref u9, .int (nI ((rdN tx ty (c1 + 1) 1 20).2)), .int (bB ((rdN tx ty (c1 + 1) 1 20).1.isNone)), .ref u10, .ref u11])), (u8, .inl (tyI D, 60, .inl (nf tx)))]) rfl rfl rfl ?_
                cases hnb : (rdN tx ty (c1 + 1) 1 20).1 with
                | none =>
                  have hB := rdB_3 hsd hRA hc1 hx (show (rdN tx ty (c1 + 1) 1 20) = (none, (rdN tx ty (c1 + 1) 1 20).2) from Prod.ext hnb rfl)
                  refine g_eq (ws' := [(u0, .inr (9, [.ref u1, .ref u2, .ref u3, .ref u4, .ref u5, .ref u6, .int (nI kn), .ref u7, .int (bB ik), .ref u8, .int (nI ty), .ref u9, .int (nI ((rdN tx ty (c1 + 1) 1 20).2)), .int (bB true), .ref u10, .ref u11])), (u8, .inl (tyI D, 60, .inl (nf tx)))]) rfl rfl rfl ?_
                  refine g_goto (tgt := 219) O dX9_go_215 (by decide) ?_
                  refine g_istore (L' := [(0, .ref u0), (1, .int (bB false)), (2, .int (nI m_)), (3, .int (nI 1)), (5, .int (nI sd)), (6, .int (nI al)), (7, .int (nI 1)), (8, .int (nI (tx c1))), (9, .int r9_66)]) O dX9_go_219 (by decide) [1, 2, 3, 4, 5, 6, 7, 8, 0] rfl ?_
                  refine g_iload_n O dX9_go_221 1 rfl rfl ?_
                  refine g_if_eqB (tgt := 237) O dX9_go_222 (by decide) (fun c_68 => ?_) (fun c_68 => absurd c_68 (by decide))
                  have he := rdP_B0 (f := f_ - 1) (n := m_) (fs := Fs) (fa := Fa) (fk := Fk) hB
                  rw [show f_ - 1 + 1 = f_ by omega, hR] at he
                  refine g_iincN (L' := [(0, .ref u0), (1, .int (bB false)), (2, .int (nI (m_ + 1))), (3, .int (nI 1)), (5, .int (nI sd)), (6, .int (nI al)), (7, .int (nI 1)), (8, .int (nI (tx c1))), (9, .int r9_66)]) O dX9_go_237 2 rfl (by decide) [1, 2, 0, 3, 4, 5, 6, 7, 8] rfl ?_
                  refine g_aload_n O dX9_go_240 0 rfl rfl ?_
                  refine g_get O hiX9_go_X9 0 rfl rfl 13 (by decide) (by decide +kernel) rfl dX9_go_241 ?_
                  refine g_if_neB (tgt := 262) O dX9_go_244 (by decide) (fun c_69 => ?_) (fun c_69 => absurd c_69 (by decide))
                  refine g_iconst (x := (nI 0)) O dX9_go_262 (by decide +kernel) ?_
                  refine g_istore_n (L' := [(0, .ref u0), (1, .int (bB false)), (2, .int (nI (m_ + 1))), (3, .int (nI 0)), (5, .int (nI sd)), (6, .int (nI al)), (7, .int (nI 1)), (8, .int (nI (tx c1))), (9, .int r9_66)]) O dX9_go_263 rfl (by decide) [1, 2, 3, 0, 4, 5, 6, 7, 8] rfl ?_
                  refine g_iload_n O dX9_go_264 3 rfl rfl ?_
                  refine g_if_eqN (tgt := 291) O (by omega) dX9_go_265 (by decide) (fun c_70 => ?_) (fun c_70 => absurd c_70 (by decide))
                  refine g_goto (tgt := 14) O dX9_go_291 (by decide) ?_
                  refine g_iload_n O dX9_go_14 3 rfl rfl ?_
                  refine g_if_eqN (tgt := 294) O (by omega) dX9_go_15 (by decide) (fun c_71 => ?_) (fun c_71 => absurd c_71 (by decide))
                  refine g_iload_n O dX9_go_294 2 rfl rfl ?_
                  exact E 295 _ (nI (m_ + 1)) _ dX9_go_295 (by rw [he]; first | exact ⟨_, fun _ => rfl, rfl, rfl⟩ | exact ⟨_, (fun h => by cases h), rfl, rfl⟩)
                | some ks =>
                  have hrb := hr9_67 ks hnb
                  have hbv := rdN_v (by omega) hnb
                  have hB := rdB_4 hsd hRA hc1 hx (show (rdN tx ty (c1 + 1) 1 20) = (some ks, (rdN tx ty (c1 + 1) 1 20).2) from Prod.ext hnb rfl)
                  generalize (rdN tx ty (c1 + 1) 1 20).2 = c2 at *
                  refine g_eq (st' := [.int (nI ks)]) (ws' := [(u0, .inr (9, [.ref u1, .ref u2, .ref u3, .ref u4, .ref u5, .ref u6, .int (nI kn), .ref u7, .int (bB ik), .ref u8, .int (nI ty), .ref u9, .int (nI c2), .int (bB false), .ref u10, .ref u11])), (u8, .inl (tyI D, 60, .inl (nf tx)))]) (by rw [hrb]) rfl rfl ?_
                  refine g_goto (tgt := 219) O dX9_go_215 (by decide) ?_
                  refine g_istore (L' := [(0, .ref u0), (1, .int (bB false)), (2, .int (nI m_)), (3, .int (nI 1)), (5, .int (nI sd)), (6, .int (nI al)), (7, .int (nI 1)), (8, .int (nI (tx c1))), (9, .int (nI ks))]) O dX9_go_219 (by decide) [1, 2, 3, 4, 5, 6, 7, 8, 0] rfl ?_
                  refine g_iload_n O dX9_go_221 1 rfl rfl ?_
                  refine g_if_eqB (tgt := 237) O dX9_go_222 (by decide) (fun c_72 => ?_) (fun c_72 => absurd c_72 (by decide))
                  have hBs := rdB_s hB
                  refine g_iincN (L' := [(0, .ref u0), (1, .int (bB false)), (2, .int (nI (m_ + 1))), (3, .int (nI 1)), (5, .int (nI sd)), (6, .int (nI al)), (7, .int (nI 1)), (8, .int (nI (tx c1))), (9, .int (nI ks))]) O dX9_go_237 2 rfl (by decide) [1, 2, 0, 3, 4, 5, 6, 7, 8] rfl ?_
                  refine g_aload_n O dX9_go_240 0 rfl rfl ?_
                  refine g_get O hiX9_go_X9 0 rfl rfl 13 (by decide) (by decide +kernel) rfl dX9_go_241 ?_
                  refine g_if_neB (tgt := 262) O dX9_go_244 (by decide) (fun c_73 => absurd c_73 (by decide)) (fun c_73 => ?_)
                  refine g_aload_n O dX9_go_247 0 rfl rfl ?_
                  refine g_get O hiX9_go_X9 0 rfl rfl 12 (by decide) (by decide +kernel) rfl dX9_go_248 ?_
                  refine g_aload_n O dX9_go_251 0 rfl rfl ?_
                  refine g_get O hiX9_go_X9 0 rfl rfl 10 (by decide) (by decide +kernel) rfl dX9_go_252 ?_
                  refine g_icmp_geN (tgt := 262) O (by omega) (by omega) dX9_go_255 (by decide) (fun c_74 => ?_) (fun c_74 => ?_)
                  ·
                    have he := rdP_Be (f := f_ - 1) (n := m_) (fs := Fs) (fa := Fa) (fk := Fk) hB (by omega)
                    rw [show f_ - 1 + 1 = f_ by omega, hR] at he
                    refine g_iconst (x := (nI 0)) O dX9_go_262 (by decide +kernel) ?_
                    refine g_istore_n (L' := [(0, .ref u0), (1, .int (bB false)), (2, .int (nI (m_ + 1))), (3, .int (nI 0)), (5, .int (nI sd)), (6, .int (nI al)), (7, .int (nI 1)), (8, .int (nI (tx c1))), (9, .int (nI ks))]) O dX9_go_263 rfl (by decide) [1, 2, 3, 0, 4, 5, 6, 7, 8] rfl ?_
                    refine g_iload_n O dX9_go_264 3 rfl rfl ?_
                    refine g_if_eqN (tgt := 291) O (by omega) dX9_go_265 (by decide) (fun c_75 => ?_) (fun c_75 => absurd c_75 (by decide))
                    refine g_goto (tgt := 14) O dX9_go_291 (by decide) ?_
                    refine g_iload_n O dX9_go_14 3 rfl rfl ?_
                    refine g_if_eqN (tgt := 294) O (by omega) dX9_go_15 (by decide) (fun c_76 => ?_) (fun c_76 => absurd c_76 (by decide))
                    refine g_iload_n O dX9_go_294 2 rfl rfl ?_
                    exact E 295 _ (nI (m_ + 1)) _ dX9_go_295 (by rw [he]; first | exact ⟨_, fun _ => rfl, rfl, rfl⟩ | exact ⟨_, (fun h => by cases h), rfl, rfl⟩)
                  ·
                    refine g_iconst (x := (nI 1)) O dX9_go_258 (by decide +kernel) ?_
                    refine g_goto (tgt := 263) O dX9_go_259 (by decide) ?_
                    refine g_istore_n (L' := [(0, .ref u0), (1, .int (bB false)), (2, .int (nI (m_ + 1))), (3, .int (nI 1)), (5, .int (nI sd)), (6, .int (nI al)), (7, .int (nI 1)), (8, .int (nI (tx c1))), (9, .int (nI ks))]) O dX9_go_263 rfl (by decide) [1, 2, 3, 0, 4, 5, 6, 7, 8] rfl ?_
                    refine g_iload_n O dX9_go_264 3 rfl rfl ?_
                    refine g_if_eqN (tgt := 291) O (by omega) dX9_go_265 (by decide) (fun c_77 => absurd c_77 (by decide)) (fun c_77 => ?_)
                    have hce : c2 < ty := by omega
                    refine g_aload_n O dX9_go_268 0 rfl rfl ?_
                    refine g_bipush (x := (nI 44)) O dX9_go_269 (by decide +kernel) ?_
                    refine g_bipush (x := (nI 44)) O dX9_go_271 (by decide +kernel) ?_
                    refine g_callV (As := [.int (nI 44), .int (nI 44)]) (wr := []) O (kX9_sign l D z u0 u1 u2 u3 u4 u5 u6 u7 u8 u9 u10 u11 kn ik ty c2 false tx 44 44 (by first | assumption | omega) (by first | assumption | omega) (by first | assumption | omega) (by first | assumption | omega) (by first | assumption | omega)) gX9_go_X9_sign rfl rfl rfl 2 (by decide +kernel) (by decide) (by decide) (q0 := 0) rfl rfl rfl [0, 1] [] rfl (by decide) rfl (by decide) (by decide) rfl rfl (Nat.le_of_ble_eq_true rfl) dX9_go_273 (fun r_78 w_79 hp => ?_)
                    obtain ⟨rfl, rfl⟩ := hp
                    refine g_eq (st' := [.int (nI (chV tx ty c2))]) (ws' := [(u0, .inr (9, [.ref u1, .ref u2, .ref u3, .ref u4, .ref u5, .ref u6, .int (nI kn), .ref u7, .int (bB ik), .ref u8, .int (nI ty), .ref u9, .int (nI (sgA tx ty c2 false 44 44)), .int (bB (sgW tx ty c2 false 44 44)), .ref u10, .ref u11])), (u8, .inl (tyI D, 60, .inl (nf tx)))]) rfl rfl rfl ?_
                    by_cases hx44 : tx c2 = 44
                    ·
                      obtain ⟨y1, y2, y3⟩ := sg_ok (tx := tx) (lo := 44) (hi := 44) hce (by omega) (by omega)
                      refine g_eq (ws' := [(u0, .inr (9, [.ref u1, .ref u2, .ref u3, .ref u4, .ref u5, .ref u6, .int (nI kn), .ref u7, .int (bB ik), .ref u8, .int (nI ty), .ref u9, .int (nI (c2 + 1)), .int (bB false), .ref u10, .ref u11])), (u8, .inl (tyI D, 60, .inl (nf tx)))]) rfl rfl (by rw [y1, y2]) ?_
                      have he := rdP_Bc (f := f_ - 1) (n := m_) (fs := Fs) (fa := Fa) (fk := Fk) hB hce hx44
                      rw [show f_ - 1 + 1 = f_ by omega, hR] at he
                      refine g_istore (L' := [(0, .ref u0), (1, .int (bB false)), (2, .int (nI (m_ + 1))), (3, .int (nI 1)), (5, .int (nI sd)), (6, .int (nI al)), (7, .int (nI 1)), (8, .int (nI (tx c1))), (9, .int (nI ks)), (10, .int (nI (chV tx ty c2)))]) O dX9_go_276 (by decide) [1, 2, 3, 4, 5, 6, 7, 8, 9, 0] rfl ?_
                      refine g_aload_n O dX9_go_278 0 rfl rfl ?_
                      refine g_get O hiX9_go_X9 0 rfl rfl 13 (by decide) (by decide +kernel) rfl dX9_go_279 ?_
                      refine g_if_neB (tgt := 289) O dX9_go_282 (by decide) (fun c_80 => absurd c_80 (by decide)) (fun c_80 => ?_)
                      refine g_iconst (x := (nI 1)) O dX9_go_285 (by decide +kernel) ?_
                      refine g_goto (tgt := 290) O dX9_go_286 (by decide) ?_
                      refine g_istore_n (L' := [(0, .ref u0), (1, .int (bB false)), (2, .int (nI (m_ + 1))), (3, .int (nI 1)), (5, .int (nI sd)), (6, .int (nI al)), (7, .int (nI 1)), (8, .int (nI (tx c1))), (9, .int (nI ks)), (10, .int (nI (chV tx ty c2)))]) O dX9_go_290 rfl (by decide) [1, 2, 3, 0, 4, 5, 6, 7, 8, 9] rfl ?_
                      refine g_goto (tgt := 14) O dX9_go_291 (by decide) ?_
                      refine g_iload_n O dX9_go_14 3 rfl rfl ?_
                      refine g_if_eqN (tgt := 294) O (by omega) dX9_go_15 (by decide) (fun c_81 => absurd c_81 (by decide)) (fun c_81 => ?_)
                      refine g_locals (L' := [(0, .ref u0), (1, .int (bB false)), (2, .int (nI (m_ + 1))), (3, .int (nI 1))]) [0, 1, 2, 3] rfl ?_
                      exact ih_ (f_ - 1) (c2 + 1) (m_ + 1) (upf Fs m_ sd) (upf Fa m_ al) (upf Fk m_ ks) (by omega) (by omega) (he.symm) (by omega)
                    ·
                      have he := rdP_Bn (f := f_ - 1) (n := m_) (fs := Fs) (fa := Fa) (fk := Fk) hB hce hx44
                      rw [show f_ - 1 + 1 = f_ by omega, hR] at he
                      have hsw : sgW tx ty c2 false 44 44 = true := by cases hh : sgW tx ty c2 false 44 44; (exfalso; obtain ⟨z1, z2, z3, z4, z5⟩ := sg_t (by omega) hh; omega); rfl
                      refine g_eq (ws' := [(u0, .inr (9, [.ref u1, .ref u2, .ref u3, .ref u4, .ref u5, .ref u6, .int (nI kn), .ref u7, .int (bB ik), .ref u8, .int (nI ty), .ref u9, .int (nI c2), .int (bB true), .ref u10, .ref u11])), (u8, .inl (tyI D, 60, .inl (nf tx)))]) rfl rfl (by rw [(sg_f hsw).2, hsw]) ?_
                      refine g_istore (L' := [(0, .ref u0), (1, .int (bB false)), (2, .int (nI (m_ + 1))), (3, .int (nI 1)), (5, .int (nI sd)), (6, .int (nI al)), (7, .int (nI 1)), (8, .int (nI (tx c1))), (9, .int (nI ks)), (10, .int (nI (chV tx ty c2)))]) O dX9_go_276 (by decide) [1, 2, 3, 4, 5, 6, 7, 8, 9, 0] rfl ?_
                      refine g_aload_n O dX9_go_278 0 rfl rfl ?_
                      refine g_get O hiX9_go_X9 0 rfl rfl 13 (by decide) (by decide +kernel) rfl dX9_go_279 ?_
                      refine g_if_neB (tgt := 289) O dX9_go_282 (by decide) (fun c_82 => ?_) (fun c_82 => absurd c_82 (by decide))
                      refine g_iconst (x := (nI 0)) O dX9_go_289 (by decide +kernel) ?_
                      refine g_istore_n (L' := [(0, .ref u0), (1, .int (bB false)), (2, .int (nI (m_ + 1))), (3, .int (nI 0)), (5, .int (nI sd)), (6, .int (nI al)), (7, .int (nI 1)), (8, .int (nI (tx c1))), (9, .int (nI ks)), (10, .int (nI (chV tx ty c2)))]) O dX9_go_290 rfl (by decide) [1, 2, 3, 0, 4, 5, 6, 7, 8, 9] rfl ?_
                      refine g_goto (tgt := 14) O dX9_go_291 (by decide) ?_
                      refine g_iload_n O dX9_go_14 3 rfl rfl ?_
                      refine g_if_eqN (tgt := 294) O (by omega) dX9_go_15 (by decide) (fun c_83 => ?_) (fun c_83 => absurd c_83 (by decide))
                      refine g_iload_n O dX9_go_294 2 rfl rfl ?_
                      exact E 295 _ (nI (m_ + 1)) _ dX9_go_295 (by rw [he]; first | exact ⟨_, fun _ => rfl, rfl, rfl⟩ | exact ⟨_, (fun h => by cases h), rfl, rfl⟩)
      refine g_get O hiX9_go_X9 0 rfl rfl 12 (by decide) (by decide +kernel) rfl dX9_go_19 ?_
      refine g_aload_n O dX9_go_22 0 rfl rfl ?_
      refine g_get O hiX9_go_X9 0 rfl rfl 10 (by decide) (by decide +kernel) rfl dX9_go_23 ?_
      refine g_icmp_geN (tgt := 41) O (by omega) (by omega) dX9_go_26 (by decide) (fun c_84 => ?_) (fun c_84 => ?_)
      ·
        refine g_iconst (x := (nI 0)) O dX9_go_41 (by decide +kernel) ?_
        refine g_istore (L' := [(0, .ref u0), (1, .int (bB false)), (2, .int (nI m_)), (3, .int (nI 1)), (4, .int (nI 0))]) O dX9_go_42 (by decide) [1, 2, 3, 4, 0] rfl ?_
        refine g_iload O dX9_go_44 4 rfl ?_
        refine g_bipush (x := (nI 116)) O dX9_go_46 (by decide +kernel) ?_
        refine g_icmp_neN (tgt := 55) O (by omega) (by omega) dX9_go_48 (by decide) (fun c_85 => ?_) (fun c_85 => absurd c_85 (by decide))
        refine g_iload O dX9_go_55 4 rfl ?_
        refine g_bipush (x := (nI 114)) O dX9_go_57 (by decide +kernel) ?_
        refine g_icmp_neN (tgt := 66) O (by omega) (by omega) dX9_go_59 (by decide) (fun c_86 => ?_) (fun c_86 => absurd c_86 (by decide))
        refine g_iload O dX9_go_66 4 rfl ?_
        refine g_bipush (x := (nI 98)) O dX9_go_68 (by decide +kernel) ?_
        refine g_icmp_neN (tgt := 77) O (by omega) (by omega) dX9_go_70 (by decide) (fun c_87 => ?_) (fun c_87 => absurd c_87 (by decide))
        refine g_iload O dX9_go_77 4 rfl ?_
        refine g_bipush (x := (nI 108)) O dX9_go_79 (by decide +kernel) ?_
        refine g_icmp_neN (tgt := 88) O (by omega) (by omega) dX9_go_81 (by decide) (fun c_88 => ?_) (fun c_88 => absurd c_88 (by decide))
        refine g_bipush (x := (-5)) O dX9_go_88 (by decide +kernel) ?_
        have hsd : sdO (chO tx ty c_) = none := by first | (rw [chO_n (by omega)]; rfl) | (rw [chO_s (by omega)]; simp only [sdO, sdN]; rw [if_neg (by omega), if_neg (by omega), if_neg (by omega), if_neg (by omega)])
        refine g_eq (st' := [.int (orN (sdO (chO tx ty c_)))]) (by rw [hsd]; rfl) rfl rfl ?_
        refine g_locals (L' := [(0, .ref u0), (1, .int (bB false)), (2, .int (nI m_)), (3, .int (nI 1))]) [0, 1, 2, 3] rfl ?_
        exact J90
      ·
        have htc := htx c_ (by omega)
        refine g_aload_n O dX9_go_29 0 rfl rfl ?_
        refine g_get O hiX9_go_X9 0 rfl rfl 9 (by decide) (by decide +kernel) rfl dX9_go_30 ?_
        refine g_aload_n O dX9_go_33 0 rfl rfl ?_
        refine g_get O hiX9_go_X9 0 rfl rfl 12 (by decide) (by decide +kernel) rfl dX9_go_34 ?_
        refine g_ialdN O 1 rfl (by omega) (by omega) dX9_go_37 ?_
        refine g_goto (tgt := 42) O dX9_go_38 (by decide) ?_
        refine g_istore (L' := [(0, .ref u0), (1, .int (bB false)), (2, .int (nI m_)), (3, .int (nI 1)), (4, .int (nI (tx c_)))]) O dX9_go_42 (by decide) [1, 2, 3, 4, 0] rfl ?_
        refine g_iload O dX9_go_44 4 rfl ?_
        refine g_bipush (x := (nI 116)) O dX9_go_46 (by decide +kernel) ?_
        refine g_icmp_neN (tgt := 55) O (by omega) (by omega) dX9_go_48 (by decide) (fun c_89 => ?_) (fun c_89 => ?_)
        ·
          refine g_iload O dX9_go_55 4 rfl ?_
          refine g_bipush (x := (nI 114)) O dX9_go_57 (by decide +kernel) ?_
          refine g_icmp_neN (tgt := 66) O (by omega) (by omega) dX9_go_59 (by decide) (fun c_90 => ?_) (fun c_90 => ?_)
          ·
            refine g_iload O dX9_go_66 4 rfl ?_
            refine g_bipush (x := (nI 98)) O dX9_go_68 (by decide +kernel) ?_
            refine g_icmp_neN (tgt := 77) O (by omega) (by omega) dX9_go_70 (by decide) (fun c_91 => ?_) (fun c_91 => ?_)
            ·
              refine g_iload O dX9_go_77 4 rfl ?_
              refine g_bipush (x := (nI 108)) O dX9_go_79 (by decide +kernel) ?_
              refine g_icmp_neN (tgt := 88) O (by omega) (by omega) dX9_go_81 (by decide) (fun c_92 => ?_) (fun c_92 => ?_)
              ·
                refine g_bipush (x := (-5)) O dX9_go_88 (by decide +kernel) ?_
                have hsd : sdO (chO tx ty c_) = none := by first | (rw [chO_n (by omega)]; rfl) | (rw [chO_s (by omega)]; simp only [sdO, sdN]; rw [if_neg (by omega), if_neg (by omega), if_neg (by omega), if_neg (by omega)])
                refine g_eq (st' := [.int (orN (sdO (chO tx ty c_)))]) (by rw [hsd]; rfl) rfl rfl ?_
                refine g_locals (L' := [(0, .ref u0), (1, .int (bB false)), (2, .int (nI m_)), (3, .int (nI 1))]) [0, 1, 2, 3] rfl ?_
                exact J90
              ·
                refine g_iconst (x := (nI 3)) O dX9_go_84 (by decide +kernel) ?_
                refine g_goto (tgt := 90) O dX9_go_85 (by decide) ?_
                have hsd : sdO (chO tx ty c_) = some 3 := by rw [chO_s (by omega)]; simp only [sdO, sdN]; rw [if_neg (by omega), if_neg (by omega), if_neg (by omega), if_pos (by omega)]
                refine g_eq (st' := [.int (orN (sdO (chO tx ty c_)))]) (by rw [hsd]; rfl) rfl rfl ?_
                refine g_locals (L' := [(0, .ref u0), (1, .int (bB false)), (2, .int (nI m_)), (3, .int (nI 1))]) [0, 1, 2, 3] rfl ?_
                exact J90
            ·
              refine g_iconst (x := (nI 2)) O dX9_go_73 (by decide +kernel) ?_
              refine g_goto (tgt := 90) O dX9_go_74 (by decide) ?_
              have hsd : sdO (chO tx ty c_) = some 2 := by rw [chO_s (by omega)]; simp only [sdO, sdN]; rw [if_neg (by omega), if_neg (by omega), if_pos (by omega)]
              refine g_eq (st' := [.int (orN (sdO (chO tx ty c_)))]) (by rw [hsd]; rfl) rfl rfl ?_
              refine g_locals (L' := [(0, .ref u0), (1, .int (bB false)), (2, .int (nI m_)), (3, .int (nI 1))]) [0, 1, 2, 3] rfl ?_
              exact J90
          ·
            refine g_iconst (x := (nI 1)) O dX9_go_62 (by decide +kernel) ?_
            refine g_goto (tgt := 90) O dX9_go_63 (by decide) ?_
            have hsd : sdO (chO tx ty c_) = some 1 := by rw [chO_s (by omega)]; simp only [sdO, sdN]; rw [if_neg (by omega), if_pos (by omega)]
            refine g_eq (st' := [.int (orN (sdO (chO tx ty c_)))]) (by rw [hsd]; rfl) rfl rfl ?_
            refine g_locals (L' := [(0, .ref u0), (1, .int (bB false)), (2, .int (nI m_)), (3, .int (nI 1))]) [0, 1, 2, 3] rfl ?_
            exact J90
        ·
          refine g_iconst (x := (nI 0)) O dX9_go_51 (by decide +kernel) ?_
          refine g_goto (tgt := 90) O dX9_go_52 (by decide) ?_
          have hsd : sdO (chO tx ty c_) = some 0 := by rw [chO_s (by omega)]; simp only [sdO, sdN]; rw [if_pos (by omega)]
          refine g_eq (st' := [.int (orN (sdO (chO tx ty c_)))]) (by rw [hsd]; rfl) rfl rfl ?_
          refine g_locals (L' := [(0, .ref u0), (1, .int (bB false)), (2, .int (nI m_)), (3, .int (nI 1))]) [0, 1, 2, 3] rfl ?_
          exact J90
  exact J18 _ 60 0 0 fs fa fk (Nat.zero_le _) (by omega) (rfl) (Nat.lt_succ_self _)
