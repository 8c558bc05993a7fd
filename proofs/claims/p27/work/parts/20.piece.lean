theorem hiX4_append_X4 : ∀ w ∈ wsX40, w ∈ wsX4_append := by decide +kernel
set_option maxHeartbeats 2000000 in
set_option maxRecDepth 100000 in
/-- one bowing more -/
theorem kX4_append (l : Launch) (D : va_G) (z : Nat × Nat × Nat) (h0 : Nat) (h1 : Nat) (h2 : Nat) (h3 : Nat) (lim : Nat) (ps : Nat) (x : Nat) (y : Nat) (t : Nat) (fs : Nat → Nat) (fa : Nat → Nat) (fk : Nat → Nat) (hl : ps < lim) (hlim : lim < 1073741824) : CM l yX4_append wsX4_append ({ frames := 0, cells := 0, slots := 0, locals := 0 } : Room) D z [.ref h0, .int (nI x), .int (nI y), .int (nI t)] [(h0, .inr (4, [.int (nI lim), .ref h1, .ref h2, .ref h3, .int (nI ps)])), (h1, .inl (tyI D, lim, .inl (nf fs))), (h2, .inl (tyI D, lim, .inl (nf fa))), (h3, .inl (tyI D, lim, .inl (nf fk)))] (fun r_ w_ => r_ = none ∧ w_ = [(h0, .inr (4, [.int (nI lim), .ref h1, .ref h2, .ref h3, .int (nI (ps + 1))])), (h1, .inl (tyI D, lim, .inl (nf (upf fs ps x)))), (h2, .inl (tyI D, lim, .inl (nf (upf fa ps y)))), (h3, .inl (tyI D, lim, .inl (nf (upf fk ps t))))]) 0 0 := by
  refine CM_void (own := RX4) (cc := cX4_append) (maxL := 4) (L0 := [(0, .ref h0), (1, .int (nI x)), (2, .int (nI y)), (3, .int (nI t))]) (by decide) rfl rfl (Nat.le_of_ble_eq_true rfl) rfl (fun X O E => ?_)
  refine g_aload_n O dX4_append_0 0 rfl rfl ?_
  refine g_get O hiX4_append_X4 0 rfl rfl 4 (by decide) (by decide +kernel) rfl dX4_append_1 ?_
  refine g_aload_n O dX4_append_4 0 rfl rfl ?_
  refine g_get O hiX4_append_X4 0 rfl rfl 0 (by decide) (by decide +kernel) rfl dX4_append_5 ?_
  refine g_icmp_geN (tgt := 51) O (by omega) (by omega) dX4_append_8 (by decide) (fun c_1 => (by exfalso; omega)) (fun c_1 => ?_)
  refine g_aload_n O dX4_append_11 0 rfl rfl ?_
  refine g_get O hiX4_append_X4 0 rfl rfl 1 (by decide) (by decide +kernel) rfl dX4_append_12 ?_
  refine g_aload_n O dX4_append_15 0 rfl rfl ?_
  refine g_get O hiX4_append_X4 0 rfl rfl 4 (by decide) (by decide +kernel) rfl dX4_append_16 ?_
  refine g_iload_n O dX4_append_19 1 rfl rfl ?_
  refine g_iastN (f' := (nf (upf fs ps x))) (ws' := [(h0, .inr (4, [.int (nI lim), .ref h1, .ref h2, .ref h3, .int (nI ps)])), (h1, .inl (tyI D, lim, .inl (nf (upf fs ps x)))), (h2, .inl (tyI D, lim, .inl (nf fa))), (h3, .inl (tyI D, lim, .inl (nf fk)))]) O 1 rfl (by omega) (by omega) dX4_append_20 (nf_upd _ _ _) rfl ?_
  refine g_aload_n O dX4_append_21 0 rfl rfl ?_
  refine g_get O hiX4_append_X4 0 rfl rfl 2 (by decide) (by decide +kernel) rfl dX4_append_22 ?_
  refine g_aload_n O dX4_append_25 0 rfl rfl ?_
  refine g_get O hiX4_append_X4 0 rfl rfl 4 (by decide) (by decide +kernel) rfl dX4_append_26 ?_
  refine g_iload_n O dX4_append_29 2 rfl rfl ?_
  refine g_iastN (f' := (nf (upf fa ps y))) (ws' := [(h0, .inr (4, [.int (nI lim), .ref h1, .ref h2, .ref h3, .int (nI ps)])), (h1, .inl (tyI D, lim, .inl (nf (upf fs ps x)))), (h2, .inl (tyI D, lim, .inl (nf (upf fa ps y)))), (h3, .inl (tyI D, lim, .inl (nf fk)))]) O 2 rfl (by omega) (by omega) dX4_append_30 (nf_upd _ _ _) rfl ?_
  refine g_aload_n O dX4_append_31 0 rfl rfl ?_
  refine g_get O hiX4_append_X4 0 rfl rfl 3 (by decide) (by decide +kernel) rfl dX4_append_32 ?_
  refine g_aload_n O dX4_append_35 0 rfl rfl ?_
  refine g_get O hiX4_append_X4 0 rfl rfl 4 (by decide) (by decide +kernel) rfl dX4_append_36 ?_
  refine g_iload_n O dX4_append_39 3 rfl rfl ?_
  refine g_iastN (f' := (nf (upf fk ps t))) (ws' := [(h0, .inr (4, [.int (nI lim), .ref h1, .ref h2, .ref h3, .int (nI ps)])), (h1, .inl (tyI D, lim, .inl (nf (upf fs ps x)))), (h2, .inl (tyI D, lim, .inl (nf (upf fa ps y)))), (h3, .inl (tyI D, lim, .inl (nf (upf fk ps t))))]) O 3 rfl (by omega) (by omega) dX4_append_40 (nf_upd _ _ _) rfl ?_
  refine g_aload_n O dX4_append_41 0 rfl rfl ?_
  refine g_dup O dX4_append_42 rfl ?_
  refine g_get O hiX4_append_X4 0 rfl rfl 4 (by decide) (by decide +kernel) rfl dX4_append_43 ?_
  refine g_iconst (x := (nI 1)) O dX4_append_46 (by decide +kernel) ?_
  refine g_iaddN O dX4_append_47 ?_
  refine g_put (ws' := [(h0, .inr (4, [.int (nI lim), .ref h1, .ref h2, .ref h3, .int (nI (ps + 1))])), (h1, .inl (tyI D, lim, .inl (nf (upf fs ps x)))), (h2, .inl (tyI D, lim, .inl (nf (upf fa ps y)))), (h3, .inl (tyI D, lim, .inl (nf (upf fk ps t))))]) O hiX4_append_X4 tyX4 tyX4_ok nmX4 0 rfl rfl 4 (by decide) (by decide +kernel) rfl (tyX4_ok 4 (by decide)) rfl rfl (Nat.le_of_ble_eq_true rfl) dX4_append_48 rfl ?_
  exact E 51 _ _ dX4_append_51 ⟨rfl, rfl⟩
theorem hiX4_appendAll_X4 : ∀ w ∈ wsX40, w ∈ wsX4_appendAll := by decide +kernel
set_option maxHeartbeats 2000000 in
set_option maxRecDepth 100000 in
/-- all bowings of another piece -/
theorem kX4_appendAll (l : Launch) (D : va_G) (z : Nat × Nat × Nat) (h0 : Nat) (h1 : Nat) (h2 : Nat) (h3 : Nat) (o0 : Nat) (o1 : Nat) (o2 : Nat) (o3 : Nat) (lim : Nat) (ps : Nat) (lio : Nat) (po : Nat) (fs : Nat → Nat) (fa : Nat → Nat) (fk : Nat → Nat) (os : Nat → Nat) (oa : Nat → Nat) (ok : Nat → Nat) (hl : ps + po ≤ lim) (ho : po ≤ lio) (hlim : lim < 1073741824) (hlio : lio < 1073741824) : CM l yX4_appendAll wsX4_appendAll ({ frames := 1, cells := 0, slots := 0, locals := 23 } : Room) D z [.ref h0, .ref o0] [(h0, .inr (4, [.int (nI lim), .ref h1, .ref h2, .ref h3, .int (nI ps)])), (h1, .inl (tyI D, lim, .inl (nf fs))), (h2, .inl (tyI D, lim, .inl (nf fa))), (h3, .inl (tyI D, lim, .inl (nf fk))), (o0, .inr (4, [.int (nI lio), .ref o1, .ref o2, .ref o3, .int (nI po)])), (o1, .inl (tyI D, lio, .inl (nf os))), (o2, .inl (tyI D, lio, .inl (nf oa))), (o3, .inl (tyI D, lio, .inl (nf ok)))] (fun r_ w_ => r_ = none ∧ w_ = [(h0, .inr (4, [.int (nI lim), .ref h1, .ref h2, .ref h3, .int (nI (ps + po))])), (h1, .inl (tyI D, lim, .inl (nf (apf fs os ps po)))), (h2, .inl (tyI D, lim, .inl (nf (apf fa oa ps po)))), (h3, .inl (tyI D, lim, .inl (nf (apf fk ok ps po)))), (o0, .inr (4, [.int (nI lio), .ref o1, .ref o2, .ref o3, .int (nI po)])), (o1, .inl (tyI D, lio, .inl (nf os))), (o2, .inl (tyI D, lio, .inl (nf oa))), (o3, .inl (tyI D, lio, .inl (nf ok)))]) 0 0 := by
  refine CM_void (own := RX4) (cc := cX4_appendAll) (maxL := 3) (L0 := [(0, .ref h0), (1, .ref o0)]) (by decide) rfl rfl (Nat.le_of_ble_eq_true rfl) rfl (fun X O E => ?_)
  refine g_iconst (x := (nI 0)) O dX4_appendAll_0 (by decide +kernel) ?_
  refine g_istore_n (L' := [(0, .ref h0), (1, .ref o0), (2, .int (nI 0))]) O dX4_appendAll_1 rfl (by decide) [1, 2, 0] rfl ?_
  have J2 : ∀ (n_ : Nat), ∀ (i_ : Nat) (Fs : Nat → Nat) (Fa : Nat → Nat) (Fk : Nat → Nat) (hi_ : i_ ≤ po) (hF : Fs = apf fs os ps i_ ∧ Fa = apf fa oa ps i_ ∧ Fk = apf fk ok ps i_), po - i_ < n_ → G X 0 0 2 [(0, .ref h0), (1, .ref o0), (2, .int (nI i_))] [] [(h0, .inr (4, [.int (nI lim), .ref h1, .ref h2, .ref h3, .int (nI (ps + i_))])), (h1, .inl (tyI D, lim, .inl (nf Fs))), (h2, .inl (tyI D, lim, .inl (nf Fa))), (h3, .inl (tyI D, lim, .inl (nf Fk))), (o0, .inr (4, [.int (nI lio), .ref o1, .ref o2, .ref o3, .int (nI po)])), (o1, .inl (tyI D, lio, .inl (nf os))), (o2, .inl (tyI D, lio, .inl (nf oa))), (o3, .inl (tyI D, lio, .inl (nf ok)))] := by
    intro n_
    induction n_ with
    | zero => intro i_ Fs Fa Fk hi_ hF hm_; exact absurd hm_ (Nat.not_lt_zero _)
    | succ n_ ih_ =>
      intro i_ Fs Fa Fk hi_ hF hm_
      refine g_iload_n O dX4_appendAll_2 2 rfl rfl ?_
      refine g_aload_n O dX4_appendAll_3 1 rfl rfl ?_
      refine g_get O hiX4_appendAll_X4 4 rfl rfl 4 (by decide) (by decide +kernel) rfl dX4_appendAll_4 ?_
      refine g_icmp_geN (tgt := 38) O (by omega) (by omega) dX4_appendAll_7 (by decide) (fun c_1 => ?_) (fun c_1 => ?_)
      ·
        obtain ⟨rfl, rfl, rfl⟩ := hF
        obtain rfl : po = i_ := by omega
        exact E 38 _ _ dX4_appendAll_38 ⟨rfl, rfl⟩
      ·
        refine g_aload_n O dX4_appendAll_10 0 rfl rfl ?_
        refine g_aload_n O dX4_appendAll_11 1 rfl rfl ?_
        refine g_get O hiX4_appendAll_X4 4 rfl rfl 1 (by decide) (by decide +kernel) rfl dX4_appendAll_12 ?_
        refine g_iload_n O dX4_appendAll_15 2 rfl rfl ?_
        refine g_ialdN O 5 rfl (by omega) (by omega) dX4_appendAll_16 ?_
        refine g_aload_n O dX4_appendAll_17 1 rfl rfl ?_
        refine g_get O hiX4_appendAll_X4 4 rfl rfl 2 (by decide) (by decide +kernel) rfl dX4_appendAll_18 ?_
        refine g_iload_n O dX4_appendAll_21 2 rfl rfl ?_
        refine g_ialdN O 6 rfl (by omega) (by omega) dX4_appendAll_22 ?_
        refine g_aload_n O dX4_appendAll_23 1 rfl rfl ?_
        refine g_get O hiX4_appendAll_X4 4 rfl rfl 3 (by decide) (by decide +kernel) rfl dX4_appendAll_24 ?_
        refine g_iload_n O dX4_appendAll_27 2 rfl rfl ?_
        refine g_ialdN O 7 rfl (by omega) (by omega) dX4_appendAll_28 ?_
        refine g_callV (As := [.int (nI (os i_)), .int (nI (oa i_)), .int (nI (ok i_))]) (wr := [(o0, .inr (4, [.int (nI lio), .ref o1, .ref o2, .ref o3, .int (nI po)])), (o1, .inl (tyI D, lio, .inl (nf os))), (o2, .inl (tyI D, lio, .inl (nf oa))), (o3, .inl (tyI D, lio, .inl (nf ok)))]) O (kX4_append l D z h0 h1 h2 h3 lim (ps + i_) (os i_) (oa i_) (ok i_) Fs Fa Fk (by first | assumption | omega) (by first | assumption | omega)) gX4_appendAll_X4_append rfl rfl rfl 3 (by decide +kernel) (by decide) (by decide) (q0 := 0) rfl rfl rfl [0, 1, 2, 3] [4, 5, 6, 7] rfl (by decide) rfl (by decide) (by decide) rfl rfl (Nat.le_of_ble_eq_true rfl) dX4_appendAll_29 (fun r_2 w_3 hp => ?_)
        obtain ⟨rfl, rfl⟩ := hp
        refine g_eq (st' := []) (ws' := [(o0, .inr (4, [.int (nI lio), .ref o1, .ref o2, .ref o3, .int (nI po)])), (o1, .inl (tyI D, lio, .inl (nf os))), (o2, .inl (tyI D, lio, .inl (nf oa))), (o3, .inl (tyI D, lio, .inl (nf ok))), (h0, .inr (4, [.int (nI lim), .ref h1, .ref h2, .ref h3, .int (nI ((ps + i_) + 1))])), (h1, .inl (tyI D, lim, .inl (nf (upf Fs (ps + i_) (os i_))))), (h2, .inl (tyI D, lim, .inl (nf (upf Fa (ps + i_) (oa i_))))), (h3, .inl (tyI D, lim, .inl (nf (upf Fk (ps + i_) (ok i_)))))]) rfl rfl rfl ?_
        refine g_iincN (L' := [(0, .ref h0), (1, .ref o0), (2, .int (nI (i_ + 1)))]) O dX4_appendAll_32 2 rfl (by decide) [1, 2, 0] rfl ?_
        refine g_goto (tgt := 2) O dX4_appendAll_35 (by decide) ?_
        refine g_perm (ws' := [(h0, .inr (4, [.int (nI lim), .ref h1, .ref h2, .ref h3, .int (nI ((ps + i_) + 1))])), (h1, .inl (tyI D, lim, .inl (nf (upf Fs (ps + i_) (os i_))))), (h2, .inl (tyI D, lim, .inl (nf (upf Fa (ps + i_) (oa i_))))), (h3, .inl (tyI D, lim, .inl (nf (upf Fk (ps + i_) (ok i_))))), (o0, .inr (4, [.int (nI lio), .ref o1, .ref o2, .ref o3, .int (nI po)])), (o1, .inl (tyI D, lio, .inl (nf os))), (o2, .inl (tyI D, lio, .inl (nf oa))), (o3, .inl (tyI D, lio, .inl (nf ok)))]) [4, 5, 6, 7, 0, 1, 2, 3] rfl (by decide) ?_
        exact ih_ _ _ _ _ (by first | assumption | omega | rfl) (by rw [hF.1, hF.2.1, hF.2.2]; exact ⟨apf_s _ _ _ _, apf_s _ _ _ _, apf_s _ _ _ _⟩) (by omega)
  exact J2 _ 0 _ _ _ (Nat.zero_le _) (⟨(apf_0 _ _ _).symm, (apf_0 _ _ _).symm, (apf_0 _ _ _).symm⟩) (Nat.lt_succ_self _)
theorem hiX4_copyFrom_X4 : ∀ w ∈ wsX40, w ∈ wsX4_copyFrom := by decide +kernel
set_option maxHeartbeats 2000000 in
set_option maxRecDepth 100000 in
/-- a piece like another -/
theorem kX4_copyFrom (l : Launch) (D : va_G) (z : Nat × Nat × Nat) (h0 : Nat) (h1 : Nat) (h2 : Nat) (h3 : Nat) (o0 : Nat) (o1 : Nat) (o2 : Nat) (o3 : Nat) (lim : Nat) (ps : Nat) (lio : Nat) (po : Nat) (fs : Nat → Nat) (fa : Nat → Nat) (fk : Nat → Nat) (os : Nat → Nat) (oa : Nat → Nat) (ok : Nat → Nat) (hl : po ≤ lim) (ho : po ≤ lio) (hlim : lim < 1073741824) (hlio : lio < 1073741824) : CM l yX4_copyFrom wsX4_copyFrom ({ frames := 2, cells := 0, slots := 0, locals := 45 } : Room) D z [.ref h0, .ref o0] [(h0, .inr (4, [.int (nI lim), .ref h1, .ref h2, .ref h3, .int (nI ps)])), (h1, .inl (tyI D, lim, .inl (nf fs))), (h2, .inl (tyI D, lim, .inl (nf fa))), (h3, .inl (tyI D, lim, .inl (nf fk))), (o0, .inr (4, [.int (nI lio), .ref o1, .ref o2, .ref o3, .int (nI po)])), (o1, .inl (tyI D, lio, .inl (nf os))), (o2, .inl (tyI D, lio, .inl (nf oa))), (o3, .inl (tyI D, lio, .inl (nf ok)))] (fun r_ w_ => r_ = none ∧ w_ = [(h0, .inr (4, [.int (nI lim), .ref h1, .ref h2, .ref h3, .int (nI po)])), (h1, .inl (tyI D, lim, .inl (nf (apf fs os 0 po)))), (h2, .inl (tyI D, lim, .inl (nf (apf fa oa 0 po)))), (h3, .inl (tyI D, lim, .inl (nf (apf fk ok 0 po)))), (o0, .inr (4, [.int (nI lio), .ref o1, .ref o2, .ref o3, .int (nI po)])), (o1, .inl (tyI D, lio, .inl (nf os))), (o2, .inl (tyI D, lio, .inl (nf oa))), (o3, .inl (tyI D, lio, .inl (nf ok)))]) 0 0 := by
  refine CM_void (own := RX4) (cc := cX4_copyFrom) (maxL := 2) (L0 := [(0, .ref h0), (1, .ref o0)]) (by decide) rfl rfl (Nat.le_of_ble_eq_true rfl) rfl (fun X O E => ?_)
  refine g_aload_n O dX4_copyFrom_0 0 rfl rfl ?_
  refine g_iconst (x := (nI 0)) O dX4_copyFrom_1 (by decide +kernel) ?_
  refine g_put (ws' := [(h0, .inr (4, [.int (nI lim), .ref h1, .ref h2, .ref h3, .int (nI 0)])), (h1, .inl (tyI D, lim, .inl (nf fs))), (h2, .inl (tyI D, lim, .inl (nf fa))), (h3, .inl (tyI D, lim, .inl (nf fk))), (o0, .inr (4, [.int (nI lio), .ref o1, .ref o2, .ref o3, .int (nI po)])), (o1, .inl (tyI D, lio, .inl (nf os))), (o2, .inl (tyI D, lio, .inl (nf oa))), (o3, .inl (tyI D, lio, .inl (nf ok)))]) O hiX4_copyFrom_X4 tyX4 tyX4_ok nmX4 0 rfl rfl 4 (by decide) (by decide +kernel) rfl (tyX4_ok 4 (by decide)) rfl rfl (Nat.le_of_ble_eq_true rfl) dX4_copyFrom_2 rfl ?_
  refine g_aload_n O dX4_copyFrom_5 0 rfl rfl ?_
  refine g_aload_n O dX4_copyFrom_6 1 rfl rfl ?_
  refine g_callV (As := [.ref o0]) (wr := []) O (kX4_appendAll l D z h0 h1 h2 h3 o0 o1 o2 o3 lim 0 lio po fs fa fk os oa ok (by first | assumption | omega) (by first | assumption | omega) (by first | assumption | omega) (by first | assumption | omega)) gX4_copyFrom_X4_appendAll rfl rfl rfl 1 (by decide +kernel) (by decide) (by decide) (q0 := 0) rfl rfl rfl [0, 1, 2, 3, 4, 5, 6, 7] [] rfl (by decide) rfl (by decide) (by decide) rfl rfl (Nat.le_of_ble_eq_true rfl) dX4_copyFrom_7 (fun r_1 w_2 hp => ?_)
  obtain ⟨rfl, rfl⟩ := hp
  refine g_eq (st' := []) (ws' := [(h0, .inr (4, [.int (nI lim), .ref h1, .ref h2, .ref h3, .int (nI (0 + po))])), (h1, .inl (tyI D, lim, .inl (nf (apf fs os 0 po)))), (h2, .inl (tyI D, lim, .inl (nf (apf fa oa 0 po)))), (h3, .inl (tyI D, lim, .inl (nf (apf fk ok 0 po)))), (o0, .inr (4, [.int (nI lio), .ref o1, .ref o2, .ref o3, .int (nI po)])), (o1, .inl (tyI D, lio, .inl (nf os))), (o2, .inl (tyI D, lio, .inl (nf oa))), (o3, .inl (tyI D, lio, .inl (nf ok)))]) rfl rfl rfl ?_
  exact E 10 _ _ dX4_copyFrom_10 (by rw [Nat.zero_add]; exact ⟨rfl, rfl⟩)
theorem hiX4_dropFirst_X4 : ∀ w ∈ wsX40, w ∈ wsX4_dropFirst := by decide +kernel
set_option maxHeartbeats 2000000 in
set_option maxRecDepth 100000 in
/-- the first bowings go -/
theorem kX4_dropFirst (l : Launch) (D : va_G) (z : Nat × Nat × Nat) (h0 : Nat) (h1 : Nat) (h2 : Nat) (h3 : Nat) (lim : Nat) (ps : Nat) (d : Nat) (fs : Nat → Nat) (fa : Nat → Nat) (fk : Nat → Nat) (hl : ps ≤ lim) (hd : d ≤ ps) (hlim : lim < 1073741824) : CM l yX4_dropFirst wsX4_dropFirst ({ frames := 1, cells := 0, slots := 0, locals := 23 } : Room) D z [.ref h0, .int (nI d)] [(h0, .inr (4, [.int (nI lim), .ref h1, .ref h2, .ref h3, .int (nI ps)])), (h1, .inl (tyI D, lim, .inl (nf fs))), (h2, .inl (tyI D, lim, .inl (nf fa))), (h3, .inl (tyI D, lim, .inl (nf fk)))] (fun r_ w_ => r_ = none ∧ w_ = [(h0, .inr (4, [.int (nI lim), .ref h1, .ref h2, .ref h3, .int (nI (ps - d))])), (h1, .inl (tyI D, lim, .inl (nf (dff fs d (ps - d))))), (h2, .inl (tyI D, lim, .inl (nf (dff fa d (ps - d))))), (h3, .inl (tyI D, lim, .inl (nf (dff fk d (ps - d)))))]) 0 0 := by
  refine CM_void (own := RX4) (cc := cX4_dropFirst) (maxL := 4) (L0 := [(0, .ref h0), (1, .int (nI d))]) (by decide) rfl rfl (Nat.le_of_ble_eq_true rfl) rfl (fun X O E => ?_)
  refine g_aload_n O dX4_dropFirst_0 0 rfl rfl ?_
  refine g_get O hiX4_dropFirst_X4 0 rfl rfl 4 (by decide) (by decide +kernel) rfl dX4_dropFirst_1 ?_
  refine g_istore_n (L' := [(0, .ref h0), (1, .int (nI d)), (2, .int (nI ps))]) O dX4_dropFirst_4 rfl (by decide) [1, 2, 0] rfl ?_
  refine g_aload_n O dX4_dropFirst_5 0 rfl rfl ?_
  refine g_iconst (x := (nI 0)) O dX4_dropFirst_6 (by decide +kernel) ?_
  refine g_put (ws' := [(h0, .inr (4, [.int (nI lim), .ref h1, .ref h2, .ref h3, .int (nI 0)])), (h1, .inl (tyI D, lim, .inl (nf fs))), (h2, .inl (tyI D, lim, .inl (nf fa))), (h3, .inl (tyI D, lim, .inl (nf fk)))]) O hiX4_dropFirst_X4 tyX4 tyX4_ok nmX4 0 rfl rfl 4 (by decide) (by decide +kernel) rfl (tyX4_ok 4 (by decide)) rfl rfl (Nat.le_of_ble_eq_true rfl) dX4_dropFirst_7 rfl ?_
  refine g_iload_n O dX4_dropFirst_10 1 rfl rfl ?_
  refine g_iconst (x := (nI 0)) O dX4_dropFirst_11 (by decide +kernel) ?_
  refine g_max O (by decide +kernel) (by decide +kernel) (by decide +kernel) (by decide +kernel) (by decide) (Nat.le_of_ble_eq_true rfl) (by decide) dX4_dropFirst_12 ?_
  refine g_eq (st' := [.int (nI (max d 0))]) (by show ([.int (if (nI d) < (nI 0) then (nI 0) else (nI d))] : List Value) = _; rw [nI_max (by omega) (by omega)]) rfl rfl ?_
  rw [Nat.max_eq_left (Nat.zero_le d)]
  refine g_istore_n (L' := [(0, .ref h0), (1, .int (nI d)), (2, .int (nI ps)), (3, .int (nI d))]) O dX4_dropFirst_15 rfl (by decide) [1, 2, 3, 0] rfl ?_
  have J16 : ∀ (n_ : Nat), ∀ (i_ : Nat) (Fs : Nat → Nat) (Fa : Nat → Nat) (Fk : Nat → Nat) (hi_ : d + i_ ≤ ps) (hF : Fs = dff fs d i_ ∧ Fa = dff fa d i_ ∧ Fk = dff fk d i_), ps - i_ < n_ → G X 0 0 16 [(0, .ref h0), (1, .int (nI d)), (2, .int (nI ps)), (3, .int (nI (d + i_)))] [] [(h0, .inr (4, [.int (nI lim), .ref h1, .ref h2, .ref h3, .int (nI i_)])), (h1, .inl (tyI D, lim, .inl (nf Fs))), (h2, .inl (tyI D, lim, .inl (nf Fa))), (h3, .inl (tyI D, lim, .inl (nf Fk)))] := by
    intro n_
    induction n_ with
    | zero => intro i_ Fs Fa Fk hi_ hF hm_; exact absurd hm_ (Nat.not_lt_zero _)
    | succ n_ ih_ =>
      intro i_ Fs Fa Fk hi_ hF hm_
      refine g_iload_n O dX4_dropFirst_16 3 rfl rfl ?_
      refine g_iload_n O dX4_dropFirst_17 2 rfl rfl ?_
      refine g_icmp_geN (tgt := 49) O (by omega) (by omega) dX4_dropFirst_18 (by decide) (fun c_1 => ?_) (fun c_1 => ?_)
      ·
        obtain ⟨rfl, rfl, rfl⟩ := hF
        obtain rfl : i_ = ps - d := by omega
        exact E 49 _ _ dX4_dropFirst_49 ⟨rfl, rfl⟩
      ·
        refine g_aload_n O dX4_dropFirst_21 0 rfl rfl ?_
        refine g_aload_n O dX4_dropFirst_22 0 rfl rfl ?_
        refine g_get O hiX4_dropFirst_X4 0 rfl rfl 1 (by decide) (by decide +kernel) rfl dX4_dropFirst_23 ?_
        refine g_iload_n O dX4_dropFirst_26 3 rfl rfl ?_
        refine g_ialdN O 1 rfl (by omega) (by omega) dX4_dropFirst_27 ?_
        refine g_aload_n O dX4_dropFirst_28 0 rfl rfl ?_
        refine g_get O hiX4_dropFirst_X4 0 rfl rfl 2 (by decide) (by decide +kernel) rfl dX4_dropFirst_29 ?_
        refine g_iload_n O dX4_dropFirst_32 3 rfl rfl ?_
        refine g_ialdN O 2 rfl (by omega) (by omega) dX4_dropFirst_33 ?_
        refine g_aload_n O dX4_dropFirst_34 0 rfl rfl ?_
        refine g_get O hiX4_dropFirst_X4 0 rfl rfl 3 (by decide) (by decide +kernel) rfl dX4_dropFirst_35 ?_
        refine g_iload_n O dX4_dropFirst_38 3 rfl rfl ?_
        refine g_ialdN O 3 rfl (by omega) (by omega) dX4_dropFirst_39 ?_
        refine g_callV (As := [.int (nI (Fs (d + i_))), .int (nI (Fa (d + i_))), .int (nI (Fk (d + i_)))]) (wr := []) O (kX4_append l D z h0 h1 h2 h3 lim i_ (Fs (d + i_)) (Fa (d + i_)) (Fk (d + i_)) Fs Fa Fk (by first | assumption | omega) (by first | assumption | omega)) gX4_dropFirst_X4_append rfl rfl rfl 3 (by decide +kernel) (by decide) (by decide) (q0 := 0) rfl rfl rfl [0, 1, 2, 3] [] rfl (by decide) rfl (by decide) (by decide) rfl rfl (Nat.le_of_ble_eq_true rfl) dX4_dropFirst_40 (fun r_2 w_3 hp => ?_)
        obtain ⟨rfl, rfl⟩ := hp
        refine g_eq (st' := []) (ws' := [(h0, .inr (4, [.int (nI lim), .ref h1, .ref h2, .ref h3, .int (nI (i_ + 1))])), (h1, .inl (tyI D, lim, .inl (nf (upf Fs i_ (Fs (d + i_)))))), (h2, .inl (tyI D, lim, .inl (nf (upf Fa i_ (Fa (d + i_)))))), (h3, .inl (tyI D, lim, .inl (nf (upf Fk i_ (Fk (d + i_))))))]) rfl rfl rfl ?_
        refine g_iincN (L' := [(0, .ref h0), (1, .int (nI d)), (2, .int (nI ps)), (3, .int (nI (d + i_ + 1)))]) O dX4_dropFirst_43 3 rfl (by decide) [1, 2, 3, 0] rfl ?_
        refine g_goto (tgt := 16) O dX4_dropFirst_46 (by decide) ?_
        exact ih_ (i_ + 1) _ _ _ (by first | assumption | omega | rfl) (by rw [hF.1, hF.2.1, hF.2.2]; exact ⟨dff_s _ _ _, dff_s _ _ _, dff_s _ _ _⟩) (by omega)
  exact J16 _ 0 _ _ _ (hd) (⟨(dff_0 _ _).symm, (dff_0 _ _).symm, (dff_0 _ _).symm⟩) (Nat.lt_succ_self _)
theorem hiX4_sizeAt_X4 : ∀ w ∈ wsX40, w ∈ wsX4_sizeAt := by decide +kernel
set_option maxHeartbeats 2000000 in
set_option maxRecDepth 100000 in
/-- how many bowings at a side -/
theorem kX4_sizeAt (l : Launch) (D : va_G) (z : Nat × Nat × Nat) (h0 : Nat) (h1 : Nat) (h2 : Nat) (h3 : Nat) (lim : Nat) (ps : Nat) (x : Nat) (fs : Nat → Nat) (fa : Nat → Nat) (fk : Nat → Nat) (hl : ps ≤ lim) (hlim : lim < 1073741824) (hx : x < 2147483648) (hfs : ∀ j, j < ps → fs j < 2147483648) : CM l yX4_sizeAt wsX4_sizeAt ({ frames := 0, cells := 0, slots := 0, locals := 0 } : Room) D z [.ref h0, .int (nI x)] [(h0, .inr (4, [.int (nI lim), .ref h1, .ref h2, .ref h3, .int (nI ps)])), (h1, .inl (tyI D, lim, .inl (nf fs))), (h2, .inl (tyI D, lim, .inl (nf fa))), (h3, .inl (tyI D, lim, .inl (nf fk)))] (fun r_ w_ => r_ = some (.int (nI (cntB (isB fs x) ps))) ∧ w_ = [(h0, .inr (4, [.int (nI lim), .ref h1, .ref h2, .ref h3, .int (nI ps)])), (h1, .inl (tyI D, lim, .inl (nf fs))), (h2, .inl (tyI D, lim, .inl (nf fa))), (h3, .inl (tyI D, lim, .inl (nf fk)))]) 0 0 := by
  refine CM_int (own := RX4) (cc := cX4_sizeAt) (maxL := 4) (L0 := [(0, .ref h0), (1, .int (nI x))]) (by decide) rfl rfl (Nat.le_of_ble_eq_true rfl) rfl (fun X O E => ?_)
  refine g_iconst (x := (nI 0)) O dX4_sizeAt_0 (by decide +kernel) ?_
  refine g_istore_n (L' := [(0, .ref h0), (1, .int (nI x)), (2, .int (nI 0))]) O dX4_sizeAt_1 rfl (by decide) [1, 2, 0] rfl ?_
  refine g_iconst (x := (nI 0)) O dX4_sizeAt_2 (by decide +kernel) ?_
  refine g_istore_n (L' := [(0, .ref h0), (1, .int (nI x)), (2, .int (nI 0)), (3, .int (nI 0))]) O dX4_sizeAt_3 rfl (by decide) [1, 2, 3, 0] rfl ?_
  have J4 : ∀ (n_ : Nat), ∀ (i_ : Nat) (c_ : Nat) (hi_ : i_ ≤ ps) (hc_ : c_ = cntB (isB fs x) i_), ps - i_ < n_ → G X 0 0 4 [(0, .ref h0), (1, .int (nI x)), (2, .int (nI c_)), (3, .int (nI i_))] [] [(h0, .inr (4, [.int (nI lim), .ref h1, .ref h2, .ref h3, .int (nI ps)])), (h1, .inl (tyI D, lim, .inl (nf fs))), (h2, .inl (tyI D, lim, .inl (nf fa))), (h3, .inl (tyI D, lim, .inl (nf fk)))] := by
    intro n_
    induction n_ with
    | zero => intro i_ c_ hi_ hc_ hm_; exact absurd hm_ (Nat.not_lt_zero _)
    | succ n_ ih_ =>
      intro i_ c_ hi_ hc_ hm_
      have hcl := cntB_le (isB fs x) i_
      refine g_iload_n O dX4_sizeAt_4 3 rfl rfl ?_
      refine g_aload_n O dX4_sizeAt_5 0 rfl rfl ?_
      refine g_get O hiX4_sizeAt_X4 0 rfl rfl 4 (by decide) (by decide +kernel) rfl dX4_sizeAt_6 ?_
      refine g_icmp_geN (tgt := 31) O (by omega) (by omega) dX4_sizeAt_9 (by decide) (fun c_1 => ?_) (fun c_1 => ?_)
      ·
        have hpi : ps = i_ := by omega
        refine g_iload_n O dX4_sizeAt_31 2 rfl rfl ?_
        exact E 32 _ (nI c_) _ dX4_sizeAt_32 (by rw [hc_, hpi]; exact ⟨rfl, rfl⟩)
      ·
        have hfi := hfs i_ c_1
        refine g_aload_n O dX4_sizeAt_12 0 rfl rfl ?_
        refine g_get O hiX4_sizeAt_X4 0 rfl rfl 1 (by decide) (by decide +kernel) rfl dX4_sizeAt_13 ?_
        refine g_iload_n O dX4_sizeAt_16 3 rfl rfl ?_
        refine g_ialdN O 1 rfl (by omega) (by omega) dX4_sizeAt_17 ?_
        refine g_iload_n O dX4_sizeAt_18 1 rfl rfl ?_
        refine g_icmp_neN (tgt := 25) O (by omega) (by omega) dX4_sizeAt_19 (by decide) (fun c_2 => ?_) (fun c_2 => ?_)
        ·
          refine g_iincN (L' := [(0, .ref h0), (1, .int (nI x)), (2, .int (nI c_)), (3, .int (nI (i_ + 1)))]) O dX4_sizeAt_25 3 rfl (by decide) [1, 2, 3, 0] rfl ?_
          refine g_goto (tgt := 4) O dX4_sizeAt_28 (by decide) ?_
          exact ih_ (i_ + 1) _ (by first | assumption | omega | rfl) (by first | exact (by rw [hc_]; exact (cntB_t (by simp only [isB]; simp_all)).symm) | exact (by rw [hc_]; exact (cntB_f (by simp only [isB]; simp_all)).symm)) (by omega)
        ·
          refine g_iincN (L' := [(0, .ref h0), (1, .int (nI x)), (2, .int (nI (c_ + 1))), (3, .int (nI i_))]) O dX4_sizeAt_22 2 rfl (by decide) [1, 2, 0, 3] rfl ?_
          refine g_iincN (L' := [(0, .ref h0), (1, .int (nI x)), (2, .int (nI (c_ + 1))), (3, .int (nI (i_ + 1)))]) O dX4_sizeAt_25 3 rfl (by decide) [1, 2, 3, 0] rfl ?_
          refine g_goto (tgt := 4) O dX4_sizeAt_28 (by decide) ?_
          exact ih_ (i_ + 1) _ (by first | assumption | omega | rfl) (by first | exact (by rw [hc_]; exact (cntB_t (by simp only [isB]; simp_all)).symm) | exact (by rw [hc_]; exact (cntB_f (by simp only [isB]; simp_all)).symm)) (by omega)
  exact J4 _ 0 0 (Nat.zero_le _) (rfl) (Nat.lt_succ_self _)
theorem hiX4_dropSide_X4 : ∀ w ∈ wsX40, w ∈ wsX4_dropSide := by decide +kernel
set_option maxHeartbeats 2000000 in
set_option maxRecDepth 100000 in
/-- all bowings at a side go -/
theorem kX4_dropSide (l : Launch) (D : va_G) (z : Nat × Nat × Nat) (h0 : Nat) (h1 : Nat) (h2 : Nat) (h3 : Nat) (lim : Nat) (ps : Nat) (x : Nat) (fs : Nat → Nat) (fa : Nat → Nat) (fk : Nat → Nat) (hl : ps ≤ lim) (hlim : lim < 1073741824) (hx : x < 2147483648) (hfs : ∀ j, j < ps → fs j < 2147483648) : CM l yX4_dropSide wsX4_dropSide ({ frames := 1, cells := 0, slots := 0, locals := 23 } : Room) D z [.ref h0, .int (nI x)] [(h0, .inr (4, [.int (nI lim), .ref h1, .ref h2, .ref h3, .int (nI ps)])), (h1, .inl (tyI D, lim, .inl (nf fs))), (h2, .inl (tyI D, lim, .inl (nf fa))), (h3, .inl (tyI D, lim, .inl (nf fk)))] (fun r_ w_ => r_ = some (.int (nI (ps - cntB (isN fs x) ps))) ∧ w_ = [(h0, .inr (4, [.int (nI lim), .ref h1, .ref h2, .ref h3, .int (nI (cntB (isN fs x) ps))])), (h1, .inl (tyI D, lim, .inl (nf (flt fs (isN fs x) ps)))), (h2, .inl (tyI D, lim, .inl (nf (flt fa (isN fs x) ps)))), (h3, .inl (tyI D, lim, .inl (nf (flt fk (isN fs x) ps))))]) 0 0 := by
  refine CM_int (own := RX4) (cc := cX4_dropSide) (maxL := 4) (L0 := [(0, .ref h0), (1, .int (nI x))]) (by decide) rfl rfl (Nat.le_of_ble_eq_true rfl) rfl (fun X O E => ?_)
  refine g_aload_n O dX4_dropSide_0 0 rfl rfl ?_
  refine g_get O hiX4_dropSide_X4 0 rfl rfl 4 (by decide) (by decide +kernel) rfl dX4_dropSide_1 ?_
  refine g_istore_n (L' := [(0, .ref h0), (1, .int (nI x)), (2, .int (nI ps))]) O dX4_dropSide_4 rfl (by decide) [1, 2, 0] rfl ?_
  refine g_aload_n O dX4_dropSide_5 0 rfl rfl ?_
  refine g_iconst (x := (nI 0)) O dX4_dropSide_6 (by decide +kernel) ?_
  refine g_put (ws' := [(h0, .inr (4, [.int (nI lim), .ref h1, .ref h2, .ref h3, .int (nI 0)])), (h1, .inl (tyI D, lim, .inl (nf fs))), (h2, .inl (tyI D, lim, .inl (nf fa))), (h3, .inl (tyI D, lim, .inl (nf fk)))]) O hiX4_dropSide_X4 tyX4 tyX4_ok nmX4 0 rfl rfl 4 (by decide) (by decide +kernel) rfl (tyX4_ok 4 (by decide)) rfl rfl (Nat.le_of_ble_eq_true rfl) dX4_dropSide_7 rfl ?_
  refine g_iconst (x := (nI 0)) O dX4_dropSide_10 (by decide +kernel) ?_
  refine g_istore_n (L' := [(0, .ref h0), (1, .int (nI x)), (2, .int (nI ps)), (3, .int (nI 0))]) O dX4_dropSide_11 rfl (by decide) [1, 2, 3, 0] rfl ?_
  have J12 : ∀ (n_ : Nat), ∀ (i_ : Nat) (c_ : Nat) (Fs : Nat → Nat) (Fa : Nat → Nat) (Fk : Nat → Nat) (hi_ : i_ ≤ ps) (hc_ : c_ = cntB (isN fs x) i_) (hF : Fs = flt fs (isN fs x) i_ ∧ Fa = flt fa (isN fs x) i_ ∧ Fk = flt fk (isN fs x) i_), ps - i_ < n_ → G X 0 0 12 [(0, .ref h0), (1, .int (nI x)), (2, .int (nI ps)), (3, .int (nI i_))] [] [(h0, .inr (4, [.int (nI lim), .ref h1, .ref h2, .ref h3, .int (nI c_)])), (h1, .inl (tyI D, lim, .inl (nf Fs))), (h2, .inl (tyI D, lim, .inl (nf Fa))), (h3, .inl (tyI D, lim, .inl (nf Fk)))] := by
    intro n_
    induction n_ with
    | zero => intro i_ c_ Fs Fa Fk hi_ hc_ hF hm_; exact absurd hm_ (Nat.not_lt_zero _)
    | succ n_ ih_ =>
      intro i_ c_ Fs Fa Fk hi_ hc_ hF hm_
      have hcl := cntB_le (isN fs x) i_
      have hfe : Fs i_ = fs i_ := by rw [hF.1]; exact flt_hi _ _ _ _ hcl
      refine g_iload_n O dX4_dropSide_12 3 rfl rfl ?_
      refine g_iload_n O dX4_dropSide_13 2 rfl rfl ?_
      refine g_icmp_geN (tgt := 55) O (by omega) (by omega) dX4_dropSide_14 (by decide) (fun c_1 => ?_) (fun c_1 => ?_)
      ·
        have hpi : ps = i_ := by omega
        refine g_iload_n O dX4_dropSide_55 2 rfl rfl ?_
        refine g_aload_n O dX4_dropSide_56 0 rfl rfl ?_
        refine g_get O hiX4_dropSide_X4 0 rfl rfl 4 (by decide) (by decide +kernel) rfl dX4_dropSide_57 ?_
        refine g_isubN O (by omega) dX4_dropSide_60 ?_
        exact E 61 _ (nI (ps - c_)) _ dX4_dropSide_61 (by rw [hc_, hF.1, hF.2.1, hF.2.2, hpi]; exact ⟨rfl, rfl⟩)
      ·
        have hfi := hfs i_ c_1
        refine g_aload_n O dX4_dropSide_17 0 rfl rfl ?_
        refine g_get O hiX4_dropSide_X4 0 rfl rfl 1 (by decide) (by decide +kernel) rfl dX4_dropSide_18 ?_
        refine g_iload_n O dX4_dropSide_21 3 rfl rfl ?_
        refine g_ialdN O 1 rfl (by omega) (by omega) dX4_dropSide_22 ?_
        refine g_iload_n O dX4_dropSide_23 1 rfl rfl ?_
        refine g_icmp_eqN (tgt := 49) O (by omega) (by omega) dX4_dropSide_24 (by decide) (fun c_2 => ?_) (fun c_2 => ?_)
        ·
          have hq : isN fs x i_ = false := by simp only [isN]; rw [← hfe, c_2]; simp
          refine g_iincN (L' := [(0, .ref h0), (1, .int (nI x)), (2, .int (nI ps)), (3, .int (nI (i_ + 1)))]) O dX4_dropSide_49 3 rfl (by decide) [1, 2, 3, 0] rfl ?_
          refine g_goto (tgt := 12) O dX4_dropSide_52 (by decide) ?_
          exact ih_ (i_ + 1) _ _ _ _ (by first | assumption | omega | rfl) (by first | exact (by rw [hc_]; exact (cntB_t (by simp only [isN]; simp_all)).symm) | exact (by rw [hc_]; exact (cntB_f (by simp only [isN]; simp_all)).symm)) (by first | exact (by rw [hF.1, hF.2.1, hF.2.2]; exact ⟨(flt_f hq).symm, (flt_f hq).symm, (flt_f hq).symm⟩) | exact (by rw [hc_, hF.1, hF.2.1, hF.2.2]; exact ⟨(flt_t hq).symm, (flt_t hq).symm, (flt_t hq).symm⟩)) (by omega)
        ·
          have hq : isN fs x i_ = true := by simp only [isN]; rw [← hfe]; simp [c_2]
          refine g_aload_n O dX4_dropSide_27 0 rfl rfl ?_
          refine g_aload_n O dX4_dropSide_28 0 rfl rfl ?_
          refine g_get O hiX4_dropSide_X4 0 rfl rfl 1 (by decide) (by decide +kernel) rfl dX4_dropSide_29 ?_
          refine g_iload_n O dX4_dropSide_32 3 rfl rfl ?_
          refine g_ialdN O 1 rfl (by omega) (by omega) dX4_dropSide_33 ?_
          refine g_aload_n O dX4_dropSide_34 0 rfl rfl ?_
          refine g_get O hiX4_dropSide_X4 0 rfl rfl 2 (by decide) (by decide +kernel) rfl dX4_dropSide_35 ?_
          refine g_iload_n O dX4_dropSide_38 3 rfl rfl ?_
          refine g_ialdN O 2 rfl (by omega) (by omega) dX4_dropSide_39 ?_
          refine g_aload_n O dX4_dropSide_40 0 rfl rfl ?_
          refine g_get O hiX4_dropSide_X4 0 rfl rfl 3 (by decide) (by decide +kernel) rfl dX4_dropSide_41 ?_
          refine g_iload_n O dX4_dropSide_44 3 rfl rfl ?_
          refine g_ialdN O 3 rfl (by omega) (by omega) dX4_dropSide_45 ?_
          refine g_callV (As := [.int (nI (Fs i_)), .int (nI (Fa i_)), .int (nI (Fk i_))]) (wr := []) O (kX4_append l D z h0 h1 h2 h3 lim c_ (Fs i_) (Fa i_) (Fk i_) Fs Fa Fk (by first | assumption | omega) (by first | assumption | omega)) gX4_dropSide_X4_append rfl rfl rfl 3 (by decide +kernel) (by decide) (by decide) (q0 := 0) rfl rfl rfl [0, 1, 2, 3] [] rfl (by decide) rfl (by decide) (by decide) rfl rfl (Nat.le_of_ble_eq_true rfl) dX4_dropSide_46 (fun r_3 w_4 hp => ?_)
          obtain ⟨rfl, rfl⟩ := hp
          refine g_eq (st' := []) (ws' := [(h0, .inr (4, [.int (nI lim), .ref h1, .ref h2, .ref h3, .int (nI (c_ + 1))])), (h1, .inl (tyI D, lim, .inl (nf (upf Fs c_ (Fs i_))))), (h2, .inl (tyI D, lim, .inl (nf (upf Fa c_ (Fa i_))))), (h3, .inl (tyI D, lim, .inl (nf (upf Fk c_ (Fk i_)))))]) rfl rfl rfl ?_
          refine g_iincN (L' := [(0, .ref h0), (1, .int (nI x)), (2, .int (nI ps)), (3, .int (nI (i_ + 1)))]) O dX4_dropSide_49 3 rfl (by decide) [1, 2, 3, 0] rfl ?_
          refine g_goto (tgt := 12) O dX4_dropSide_52 (by decide) ?_
          exact ih_ (i_ + 1) _ _ _ _ (by first | assumption | omega | rfl) (by first | exact (by rw [hc_]; exact (cntB_t (by simp only [isN]; simp_all)).symm) | exact (by rw [hc_]; exact (cntB_f (by simp only [isN]; simp_all)).symm)) (by first | exact (by rw [hF.1, hF.2.1, hF.2.2]; exact ⟨(flt_f hq).symm, (flt_f hq).symm, (flt_f hq).symm⟩) | exact (by rw [hc_, hF.1, hF.2.1, hF.2.2]; exact ⟨(flt_t hq).symm, (flt_t hq).symm, (flt_t hq).symm⟩)) (by omega)
  exact J12 _ 0 _ _ _ _ (Nat.zero_le _) (rfl) (⟨rfl, rfl, rfl⟩) (Nat.lt_succ_self _)
theorem hiX4_init_X4 : ∀ w ∈ wsX40, w ∈ wsX4_init := by decide +kernel
set_option maxHeartbeats 2000000 in
set_option maxRecDepth 100000 in
/-- a new piece for 16 -/
theorem kX4_init16 (l : Launch) (D : va_G) (z : Nat × Nat × Nat) (h0 : Nat)  : CM l yX4_init wsX4_init ({ frames := 1, cells := 3, slots := 48, locals := 21 } : Room) D z [.ref h0, .int (nI 16)] [(h0, .inr (4, [.int (nI 0), .null, .null, .null, .int (nI 0)]))] (fun r_ w_ => ∃ (q0 : Nat), ∃ (q1 : Nat), ∃ (q2 : Nat), r_ = none ∧ w_ = [(h0, .inr (4, [.int (nI 16), .ref q0, .ref q1, .ref q2, .int (nI 0)])), (q0, .inl (tyI D, 16, .inl (nf (fun _ => 0)))), (q1, .inl (tyI D, 16, .inl (nf (fun _ => 0)))), (q2, .inl (tyI D, 16, .inl (nf (fun _ => 0))))]) 3 48 := by
  refine CM_void (own := RX4) (cc := cX4_init) (maxL := 2) (L0 := [(0, .ref h0), (1, .int (nI 16))]) (by decide) rfl rfl (Nat.le_of_ble_eq_true rfl) rfl (fun X O E => ?_)
  refine g_aload_n O dX4_init_0 0 rfl rfl ?_
  refine g_objInit O (by decide +kernel) (by decide +kernel) (by decide +kernel) (by decide) (Nat.le_of_ble_eq_true rfl) dX4_init_1 ?_
  refine g_aload_n O dX4_init_4 0 rfl rfl ?_
  refine g_iconst (x := (nI 0)) O dX4_init_5 (by decide +kernel) ?_
  refine g_put (ws' := [(h0, .inr (4, [.int (nI 0), .null, .null, .null, .int (nI 0)]))]) O hiX4_init_X4 tyX4 tyX4_ok nmX4 0 rfl rfl 4 (by decide) (by decide +kernel) rfl (tyX4_ok 4 (by decide)) rfl rfl (Nat.le_of_ble_eq_true rfl) dX4_init_6 rfl ?_
  refine g_aload_n O dX4_init_9 0 rfl rfl ?_
  refine g_iload_n O dX4_init_10 1 rfl rfl ?_
  refine g_iconst (x := (nI 0)) O dX4_init_11 (by decide +kernel) ?_
  refine g_max O (by decide +kernel) (by decide +kernel) (by decide +kernel) (by decide +kernel) (by decide) (Nat.le_of_ble_eq_true rfl) (by decide) dX4_init_12 ?_
  refine g_eq (st' := [.int (nI 16), .ref h0]) (by rw [show (if (nI 16) < (nI 0) then (nI 0) else (nI 16)) = (nI 16) from by decide +kernel]) rfl rfl ?_
  refine g_putF (ws' := [(h0, .inr (4, [.int (nI 16), .null, .null, .null, .int (nI 0)]))]) O hiX4_init_X4 tyX4 tyX4_ok nmX4 0 rfl rfl 0 (by decide) (by decide +kernel) rfl rfl rfl (tyX4_ok 0 (by decide)) rfl rfl (Nat.le_of_ble_eq_true rfl) dX4_init_15 rfl ?_
  refine g_aload_n O dX4_init_18 0 rfl rfl ?_
  refine g_aload_n O dX4_init_19 0 rfl rfl ?_
  refine g_get O hiX4_init_X4 0 rfl rfl 0 (by decide) (by decide +kernel) rfl dX4_init_20 ?_
  refine g_newI (N := 16) O (by decide +kernel) (nI_pos (by decide)) (nI_clamp (by decide)) (by decide) (by decide) (by decide) dX4_init_23 (fun q_1 => ?_)
  refine g_eq (ws' := [(h0, .inr (4, [.int (nI 16), .null, .null, .null, .int (nI 0)])), (q_1, .inl (tyI D, 16, .inl (nf (fun _ => 0))))]) rfl rfl (by rfl) ?_
  refine g_putF (ws' := [(h0, .inr (4, [.int (nI 16), .ref q_1, .null, .null, .int (nI 0)])), (q_1, .inl (tyI D, 16, .inl (nf (fun _ => 0))))]) O hiX4_init_X4 tyX4 tyX4_ok nmX4 0 rfl rfl 1 (by decide) (by decide +kernel) rfl rfl rfl (tyX4_ok 1 (by decide)) rfl rfl (Nat.le_of_ble_eq_true rfl) dX4_init_25 rfl ?_
  refine g_aload_n O dX4_init_28 0 rfl rfl ?_
  refine g_aload_n O dX4_init_29 0 rfl rfl ?_
  refine g_get O hiX4_init_X4 0 rfl rfl 0 (by decide) (by decide +kernel) rfl dX4_init_30 ?_
  refine g_newI (N := 16) O (by decide +kernel) (nI_pos (by decide)) (nI_clamp (by decide)) (by decide) (by decide) (by decide) dX4_init_33 (fun q_2 => ?_)
  refine g_eq (ws' := [(h0, .inr (4, [.int (nI 16), .ref q_1, .null, .null, .int (nI 0)])), (q_1, .inl (tyI D, 16, .inl (nf (fun _ => 0)))), (q_2, .inl (tyI D, 16, .inl (nf (fun _ => 0))))]) rfl rfl (by rfl) ?_
  refine g_putF (ws' := [(h0, .inr (4, [.int (nI 16), .ref q_1, .ref q_2, .null, .int (nI 0)])), (q_1, .inl (tyI D, 16, .inl (nf (fun _ => 0)))), (q_2, .inl (tyI D, 16, .inl (nf (fun _ => 0))))]) O hiX4_init_X4 tyX4 tyX4_ok nmX4 0 rfl rfl 2 (by decide) (by decide +kernel) rfl rfl rfl (tyX4_ok 2 (by decide)) rfl rfl (Nat.le_of_ble_eq_true rfl) dX4_init_35 rfl ?_
  refine g_aload_n O dX4_init_38 0 rfl rfl ?_
  refine g_aload_n O dX4_init_39 0 rfl rfl ?_
  refine g_get O hiX4_init_X4 0 rfl rfl 0 (by decide) (by decide +kernel) rfl dX4_init_40 ?_
  refine g_newI (N := 16) O (by decide +kernel) (nI_pos (by decide)) (nI_clamp (by decide)) (by decide) (by decide) (by decide) dX4_init_43 (fun q_3 => ?_)
  refine g_eq (ws' := [(h0, .inr (4, [.int (nI 16), .ref q_1, .ref q_2, .null, .int (nI 0)])), (q_1, .inl (tyI D, 16, .inl (nf (fun _ => 0)))), (q_2, .inl (tyI D, 16, .inl (nf (fun _ => 0)))), (q_3, .inl (tyI D, 16, .inl (nf (fun _ => 0))))]) rfl rfl (by rfl) ?_
  refine g_putF (ws' := [(h0, .inr (4, [.int (nI 16), .ref q_1, .ref q_2, .ref q_3, .int (nI 0)])), (q_1, .inl (tyI D, 16, .inl (nf (fun _ => 0)))), (q_2, .inl (tyI D, 16, .inl (nf (fun _ => 0)))), (q_3, .inl (tyI D, 16, .inl (nf (fun _ => 0))))]) O hiX4_init_X4 tyX4 tyX4_ok nmX4 0 rfl rfl 3 (by decide) (by decide +kernel) rfl rfl rfl (tyX4_ok 3 (by decide)) rfl rfl (Nat.le_of_ble_eq_true rfl) dX4_init_45 rfl ?_
  exact E 48 _ _ dX4_init_48 (⟨_, _, _, rfl, rfl⟩)
set_option maxHeartbeats 2000000 in
set_option maxRecDepth 100000 in
/-- a new piece for 60 -/
theorem kX4_init60 (l : Launch) (D : va_G) (z : Nat × Nat × Nat) (h0 : Nat)  : CM l yX4_init wsX4_init ({ frames := 1, cells := 3, slots := 180, locals := 21 } : Room) D z [.ref h0, .int (nI 60)] [(h0, .inr (4, [.int (nI 0), .null, .null, .null, .int (nI 0)]))] (fun r_ w_ => ∃ (q0 : Nat), ∃ (q1 : Nat), ∃ (q2 : Nat), r_ = none ∧ w_ = [(h0, .inr (4, [.int (nI 60), .ref q0, .ref q1, .ref q2, .int (nI 0)])), (q0, .inl (tyI D, 60, .inl (nf (fun _ => 0)))), (q1, .inl (tyI D, 60, .inl (nf (fun _ => 0)))), (q2, .inl (tyI D, 60, .inl (nf (fun _ => 0))))]) 3 180 := by
  refine CM_void (own := RX4) (cc := cX4_init) (maxL := 2) (L0 := [(0, .ref h0), (1, .int (nI 60))]) (by decide) rfl rfl (Nat.le_of_ble_eq_true rfl) rfl (fun X O E => ?_)
  refine g_aload_n O dX4_init_0 0 rfl rfl ?_
  refine g_objInit O (by decide +kernel) (by decide +kernel) (by decide +kernel) (by decide) (Nat.le_of_ble_eq_true rfl) dX4_init_1 ?_
  refine g_aload_n O dX4_init_4 0 rfl rfl ?_
  refine g_iconst (x := (nI 0)) O dX4_init_5 (by decide +kernel) ?_
  refine g_put (ws' := [(h0, .inr (4, [.int (nI 0), .null, .null, .null, .int (nI 0)]))]) O hiX4_init_X4 tyX4 tyX4_ok nmX4 0 rfl rfl 4 (by decide) (by decide +kernel) rfl (tyX4_ok 4 (by decide)) rfl rfl (Nat.le_of_ble_eq_true rfl) dX4_init_6 rfl ?_
  refine g_aload_n O dX4_init_9 0 rfl rfl ?_
  refine g_iload_n O dX4_init_10 1 rfl rfl ?_
  refine g_iconst (x := (nI 0)) O dX4_init_11 (by decide +kernel) ?_
  refine g_max O (by decide +kernel) (by decide +kernel) (by decide +kernel) (by decide +kernel) (by decide) (Nat.le_of_ble_eq_true rfl) (by decide) dX4_init_12 ?_
  refine g_eq (st' := [.int (nI 60), .ref h0]) (by rw [show (if (nI 60) < (nI 0) then (nI 0) else (nI 60)) = (nI 60) from by decide +kernel]) rfl rfl ?_
  refine g_putF (ws' := [(h0, .inr (4, [.int (nI 60), .null, .null, .null, .int (nI 0)]))]) O hiX4_init_X4 tyX4 tyX4_ok nmX4 0 rfl rfl 0 (by decide) (by decide +kernel) rfl rfl rfl (tyX4_ok 0 (by decide)) rfl rfl (Nat.le_of_ble_eq_true rfl) dX4_init_15 rfl ?_
  refine g_aload_n O dX4_init_18 0 rfl rfl ?_
  refine g_aload_n O dX4_init_19 0 rfl rfl ?_
  refine g_get O hiX4_init_X4 0 rfl rfl 0 (by decide) (by decide +kernel) rfl dX4_init_20 ?_
  refine g_newI (N := 60) O (by decide +kernel) (nI_pos (by decide)) (nI_clamp (by decide)) (by decide) (by decide) (by decide) dX4_init_23 (fun q_1 => ?_)
  refine g_eq (ws' := [(h0, .inr (4, [.int (nI 60), .null, .null, .null, .int (nI 0)])), (q_1, .inl (tyI D, 60, .inl (nf (fun _ => 0))))]) rfl rfl (by rfl) ?_
  refine g_putF (ws' := [(h0, .inr (4, [.int (nI 60), .ref q_1, .null, .null, .int (nI 0)])), (q_1, .inl (tyI D, 60, .inl (nf (fun _ => 0))))]) O hiX4_init_X4 tyX4 tyX4_ok nmX4 0 rfl rfl 1 (by decide) (by decide +kernel) rfl rfl rfl (tyX4_ok 1 (by decide)) rfl rfl (Nat.le_of_ble_eq_true rfl) dX4_init_25 rfl ?_
  refine g_aload_n O dX4_init_28 0 rfl rfl ?_
  refine g_aload_n O dX4_init_29 0 rfl rfl ?_
  refine g_get O hiX4_init_X4 0 rfl rfl 0 (by decide) (by decide +kernel) rfl dX4_init_30 ?_
  refine g_newI (N := 60) O (by decide +kernel) (nI_pos (by decide)) (nI_clamp (by decide)) (by decide) (by decide) (by decide) dX4_init_33 (fun q_2 => ?_)
  refine g_eq (ws' := [(h0, .inr (4, [.int (nI 60), .ref q_1, .null, .null, .int (nI 0)])), (q_1, .inl (tyI D, 60, .inl (nf (fun _ => 0)))), (q_2, .inl (tyI D, 60, .inl (nf (fun _ => 0))))]) rfl rfl (by rfl) ?_
  refine g_putF (ws' := [(h0, .inr (4, [.int (nI 60), .ref q_1, .ref q_2, .null, .int (nI 0)])), (q_1, .inl (tyI D, 60, .inl (nf (fun _ => 0)))), (q_2, .inl (tyI D, 60, .inl (nf (fun _ => 0))))]) O hiX4_init_X4 tyX4 tyX4_ok nmX4 0 rfl rfl 2 (by decide) (by decide +kernel) rfl rfl rfl (tyX4_ok 2 (by decide)) rfl rfl (Nat.le_of_ble_eq_true rfl) dX4_init_35 rfl ?_
  refine g_aload_n O dX4_init_38 0 rfl rfl ?_
  refine g_aload_n O dX4_init_39 0 rfl rfl ?_
  refine g_get O hiX4_init_X4 0 rfl rfl 0 (by decide) (by decide +kernel) rfl dX4_init_40 ?_
  refine g_newI (N := 60) O (by decide +kernel) (nI_pos (by decide)) (nI_clamp (by decide)) (by decide) (by decide) (by decide) dX4_init_43 (fun q_3 => ?_)
  refine g_eq (ws' := [(h0, .inr (4, [.int (nI 60), .ref q_1, .ref q_2, .null, .int (nI 0)])), (q_1, .inl (tyI D, 60, .inl (nf (fun _ => 0)))), (q_2, .inl (tyI D, 60, .inl (nf (fun _ => 0)))), (q_3, .inl (tyI D, 60, .inl (nf (fun _ => 0))))]) rfl rfl (by rfl) ?_
  refine g_putF (ws' := [(h0, .inr (4, [.int (nI 60), .ref q_1, .ref q_2, .ref q_3, .int (nI 0)])), (q_1, .inl (tyI D, 60, .inl (nf (fun _ => 0)))), (q_2, .inl (tyI D, 60, .inl (nf (fun _ => 0)))), (q_3, .inl (tyI D, 60, .inl (nf (fun _ => 0))))]) O hiX4_init_X4 tyX4 tyX4_ok nmX4 0 rfl rfl 3 (by decide) (by decide +kernel) rfl rfl rfl (tyX4_ok 3 (by decide)) rfl rfl (Nat.le_of_ble_eq_true rfl) dX4_init_45 rfl ?_
  exact E 48 _ _ dX4_init_48 (⟨_, _, _, rfl, rfl⟩)
