theorem hiX9_bowAll_X9 : ∀ w ∈ wsX90, w ∈ wsX9_bowAll := by intro w h; simp only [wsX9_bowAll, List.mem_append, List.mem_cons, h, or_true, true_or]
set_option maxHeartbeats 2000000 in
set_option maxRecDepth 100000 in
/-- bowAll: a fault -/
theorem kX9_bowAll_b1 (l : Launch) (D : va_G) (z : Nat × Nat × Nat) (u0 : Nat) (u1 : Nat) (u2 : Nat) (u3 : Nat) (u4 : Nat) (u5 : Nat) (u6 : Nat) (u7 : Nat) (u8 : Nat) (u9 : Nat) (u10 : Nat) (u11 : Nat) (kn : Nat) (ik : Bool) (ty : Nat) (ta : Nat) (iw : Bool) (tx : Nat → Nat) (fs : Nat → Nat) (fa : Nat → Nat) (fk : Nat → Nat) (hty : ty ≤ 60) (htx : ∀ j, j < ty → tx j < 65536) (hb : (rdP tx ty 60 0 fs fa fk 0).1 = false) : CM l yX9_bowAll wsX9_bowAll ({ frames := 4, cells := 0, slots := 0, locals := 99 } : Room) D z [.ref u0] [(u0, .inr (9, [.ref u1, .ref u2, .ref u3, .ref u4, .ref u5, .ref u6, .int (nI kn), .ref u7, .int (bB ik), .ref u8, .int (nI ty), .ref u9, .int (nI ta), .int (bB iw), .ref u10, .ref u11])), (u8, .inl (tyI D, 60, .inl (nf tx)))] (fun r_ w_ => r_ = some (.int ((-100) - nI (rdP tx ty 60 0 fs fa fk 0).2.1)) ∧ w_ = [(u0, .inr (9, [.ref u1, .ref u2, .ref u3, .ref u4, .ref u5, .ref u6, .int (nI kn), .ref u7, .int (bB ik), .ref u8, .int (nI ty), .ref u9, .int (nI ((rdP tx ty 60 0 fs fa fk 0).2.1)), .int (bB true), .ref u10, .ref u11])), (u8, .inl (tyI D, 60, .inl (nf tx)))]) 0 0 := by
  refine CM_int (own := RX9) (cc := cX9_bowAll) (maxL := 2) (L0 := [(0, .ref u0)]) (by decide) rfl rfl (Nat.le_of_ble_eq_true rfl) rfl (fun X O E => ?_)
  refine g_aload_n O dX9_bowAll_0 0 rfl rfl ?_
  refine g_iconst (x := (nI 0)) O dX9_bowAll_1 (by decide +kernel) ?_
  refine g_callV (As := [.int (nI 0)]) (wr := []) O (kX9_go_f l D z u0 u1 u2 u3 u4 u5 u6 u7 u8 u9 u10 u11 kn ik ty ta iw tx fs fa fk (by first | assumption | omega) (by first | assumption | omega)) gX9_bowAll_X9_go rfl rfl rfl 1 (by decide +kernel) (by decide) (by decide) (q0 := 0) rfl rfl rfl [0, 1] [] rfl (by decide) rfl (by decide) (by decide) rfl rfl (Nat.le_of_ble_eq_true rfl) dX9_bowAll_2 (fun r_1 w_2 hp => ?_)
  obtain ⟨r9_3, hr9_4, rfl, rfl⟩ := hp
  refine g_eq (st' := [.int r9_3]) (ws' := [(u0, .inr (9, [.ref u1, .ref u2, .ref u3, .ref u4, .ref u5, .ref u6, .int (nI kn), .ref u7, .int (bB ik), .ref u8, .int (nI ty), .ref u9, .int (nI ((rdP tx ty 60 0 fs fa fk 0).2.1)), .int (bB (!(rdP tx ty 60 0 fs fa fk 0).1)), .ref u10, .ref u11])), (u8, .inl (tyI D, 60, .inl (nf tx)))]) rfl rfl rfl ?_
  refine g_eq (ws' := [(u0, .inr (9, [.ref u1, .ref u2, .ref u3, .ref u4, .ref u5, .ref u6, .int (nI kn), .ref u7, .int (bB ik), .ref u8, .int (nI ty), .ref u9, .int (nI ((rdP tx ty 60 0 fs fa fk 0).2.1)), .int (bB true), .ref u10, .ref u11])), (u8, .inl (tyI D, 60, .inl (nf tx)))]) rfl rfl (by rw [hb]; rfl) ?_
  refine g_istore_n (L' := [(0, .ref u0), (1, .int r9_3)]) O dX9_bowAll_5 rfl (by decide) [1, 0] rfl ?_
  refine g_aload_n O dX9_bowAll_6 0 rfl rfl ?_
  refine g_get O hiX9_bowAll_X9 0 rfl rfl 13 (by decide) (by decide +kernel) rfl dX9_bowAll_7 ?_
  refine g_if_eqB (tgt := 21) O dX9_bowAll_10 (by decide) (fun c_5 => absurd c_5 (by decide)) (fun c_5 => ?_)
  refine g_bipush (x := (-100)) O dX9_bowAll_13 (by decide +kernel) ?_
  refine g_aload_n O dX9_bowAll_15 0 rfl rfl ?_
  refine g_get O hiX9_bowAll_X9 0 rfl rfl 12 (by decide) (by decide +kernel) rfl dX9_bowAll_16 ?_
  refine g_isub O dX9_bowAll_19 ?_
  exact E 20 _ ((-100) - (nI ((rdP tx ty 60 0 fs fa fk 0).2.1))) _ dX9_bowAll_20 ⟨rfl, rfl⟩

set_option maxHeartbeats 2000000 in
set_option maxRecDepth 100000 in
/-- bowAll: no room -/
theorem kX9_bowAll_b2 (l : Launch) (D : va_G) (z : Nat × Nat × Nat) (u0 : Nat) (u1 : Nat) (u2 : Nat) (u3 : Nat) (u4 : Nat) (u5 : Nat) (u6 : Nat) (u7 : Nat) (u8 : Nat) (u9 : Nat) (u10 : Nat) (u11 : Nat) (kn : Nat) (ik : Bool) (ty : Nat) (ta : Nat) (iw : Bool) (tx : Nat → Nat) (fs : Nat → Nat) (fa : Nat → Nat) (fk : Nat → Nat) (M : Nat → Int32) (s : SV) (hty : ty ≤ 60) (htx : ∀ j, j < ty → tx j < 65536) (hM : RM M s) (hps : sv_ps s ≤ 16) (hb : (rdP tx ty 60 0 fs fa fk 0).1 = true) (hf : 16 < sv_ps s + (rdP tx ty 60 0 fs fa fk 0).2.2.2.2.2) : CM l yX9_bowAll wsX9_bowAll ({ frames := 4, cells := 0, slots := 0, locals := 99 } : Room) D z [.ref u0] [(u0, .inr (9, [.ref u1, .ref u2, .ref u3, .ref u4, .ref u5, .ref u6, .int (nI kn), .ref u7, .int (bB ik), .ref u8, .int (nI ty), .ref u9, .int (nI ta), .int (bB iw), .ref u10, .ref u11])), (u8, .inl (tyI D, 60, .inl (nf tx))), (u5, .inl (tyI D, 208, .inl M))] (fun r_ w_ => r_ = some (.int (-3)) ∧ w_ = [(u0, .inr (9, [.ref u1, .ref u2, .ref u3, .ref u4, .ref u5, .ref u6, .int (nI kn), .ref u7, .int (bB ik), .ref u8, .int (nI ty), .ref u9, .int (nI ((rdP tx ty 60 0 fs fa fk 0).2.1)), .int (bB false), .ref u10, .ref u11])), (u8, .inl (tyI D, 60, .inl (nf tx))), (u5, .inl (tyI D, 208, .inl M))]) 0 0 := by
  refine CM_int (own := RX9) (cc := cX9_bowAll) (maxL := 2) (L0 := [(0, .ref u0)]) (by decide) rfl rfl (Nat.le_of_ble_eq_true rfl) rfl (fun X O E => ?_)
  have hrn := rdP_n (tx := tx) (len := ty) 60 0 fs fa fk 0
  refine g_aload_n O dX9_bowAll_0 0 rfl rfl ?_
  refine g_iconst (x := (nI 0)) O dX9_bowAll_1 (by decide +kernel) ?_
  refine g_callV (As := [.int (nI 0)]) (wr := [(u5, .inl (tyI D, 208, .inl M))]) O (kX9_go_f l D z u0 u1 u2 u3 u4 u5 u6 u7 u8 u9 u10 u11 kn ik ty ta iw tx fs fa fk (by first | assumption | omega) (by first | assumption | omega)) gX9_bowAll_X9_go rfl rfl rfl 1 (by decide +kernel) (by decide) (by decide) (q0 := 0) rfl rfl rfl [0, 1] [2] rfl (by decide) rfl (by decide) (by decide) rfl rfl (Nat.le_of_ble_eq_true rfl) dX9_bowAll_2 (fun r_1 w_2 hp => ?_)
  obtain ⟨r9_3, hr9_4, rfl, rfl⟩ := hp
  refine g_eq (st' := [.int r9_3]) (ws' := [(u5, .inl (tyI D, 208, .inl M)), (u0, .inr (9, [.ref u1, .ref u2, .ref u3, .ref u4, .ref u5, .ref u6, .int (nI kn), .ref u7, .int (bB ik), .ref u8, .int (nI ty), .ref u9, .int (nI ((rdP tx ty 60 0 fs fa fk 0).2.1)), .int (bB (!(rdP tx ty 60 0 fs fa fk 0).1)), .ref u10, .ref u11])), (u8, .inl (tyI D, 60, .inl (nf tx)))]) rfl rfl rfl ?_
  refine g_eq (st' := [.int (nI ((rdP tx ty 60 0 fs fa fk 0).2.2.2.2.2))]) (ws' := [(u5, .inl (tyI D, 208, .inl M)), (u0, .inr (9, [.ref u1, .ref u2, .ref u3, .ref u4, .ref u5, .ref u6, .int (nI kn), .ref u7, .int (bB ik), .ref u8, .int (nI ty), .ref u9, .int (nI ((rdP tx ty 60 0 fs fa fk 0).2.1)), .int (bB false), .ref u10, .ref u11])), (u8, .inl (tyI D, 60, .inl (nf tx)))]) (by rw [hr9_4 hb]) rfl (by rw [hb]; rfl) ?_
  refine g_istore_n (L' := [(0, .ref u0), (1, .int (nI ((rdP tx ty 60 0 fs fa fk 0).2.2.2.2.2)))]) O dX9_bowAll_5 rfl (by decide) [1, 0] rfl ?_
  refine g_aload_n O dX9_bowAll_6 0 rfl rfl ?_
  refine g_get O hiX9_bowAll_X9 1 rfl rfl 13 (by decide) (by decide +kernel) rfl dX9_bowAll_7 ?_
  refine g_if_eqB (tgt := 21) O dX9_bowAll_10 (by decide) (fun c_5 => ?_) (fun c_5 => absurd c_5 (by decide))
  refine g_aload_n O dX9_bowAll_21 0 rfl rfl ?_
  refine g_get O hiX9_bowAll_X9 1 rfl rfl 4 (by decide) (by decide +kernel) rfl dX9_bowAll_22 ?_
  refine g_sipush (x := (nI 159)) O dX9_bowAll_25 (by decide +kernel) ?_
  refine g_ialdN O 0 rfl (by omega) (by omega) dX9_bowAll_28 ?_
  refine g_eq (st' := [.int (nI (sv_ps s))]) (by rw [RM_ps hM]) rfl rfl ?_
  refine g_iload_n O dX9_bowAll_29 1 rfl rfl ?_
  refine g_iaddN O dX9_bowAll_30 ?_
  refine g_bipush (x := (nI 16)) O dX9_bowAll_31 (by decide +kernel) ?_
  refine g_icmp_leN (tgt := 39) O (by omega) (by omega) dX9_bowAll_33 (by decide) (fun c_6 => (by exfalso; omega)) (fun c_6 => ?_)
  refine g_bipush (x := (-3)) O dX9_bowAll_36 (by decide +kernel) ?_
  refine g_perm (ws' := [(u0, .inr (9, [.ref u1, .ref u2, .ref u3, .ref u4, .ref u5, .ref u6, .int (nI kn), .ref u7, .int (bB ik), .ref u8, .int (nI ty), .ref u9, .int (nI ((rdP tx ty 60 0 fs fa fk 0).2.1)), .int (bB false), .ref u10, .ref u11])), (u8, .inl (tyI D, 60, .inl (nf tx))), (u5, .inl (tyI D, 208, .inl M))]) [1, 2, 0] rfl (by decide) ?_
  exact E 38 _ (-3) _ dX9_bowAll_38 ⟨rfl, rfl⟩

set_option maxHeartbeats 2000000 in
set_option maxRecDepth 100000 in
/-- bowAll -/
theorem kX9_bowAll_ok (l : Launch) (D : va_G) (z : Nat × Nat × Nat) (u0 : Nat) (u1 : Nat) (u2 : Nat) (u3 : Nat) (u4 : Nat) (u5 : Nat) (u6 : Nat) (u7 : Nat) (u8 : Nat) (u9 : Nat) (u10 : Nat) (u11 : Nat) (kn : Nat) (ik : Bool) (ty : Nat) (ta : Nat) (iw : Bool) (tx : Nat → Nat) (fs : Nat → Nat) (fa : Nat → Nat) (fk : Nat → Nat) (M : Nat → Int32) (Bf : Nat → Int32) (s : SV) (hty : ty ≤ 60) (htx : ∀ j, j < ty → tx j < 65536) (hM : RM M s) (hps : sv_ps s ≤ 16) (hnc : sv_nc s ≤ 4) (hkn : kn ≤ 4) (hb : (rdP tx ty 60 0 fs fa fk 0).1 = true) (hf : sv_ps s + (rdP tx ty 60 0 fs fa fk 0).2.2.2.2.2 ≤ 16) : CM l yX9_bowAll wsX9_bowAll ({ frames := 4, cells := 0, slots := 0, locals := 99 } : Room) D z [.ref u0] [(u0, .inr (9, [.ref u1, .ref u2, .ref u3, .ref u4, .ref u5, .ref u6, .int (nI kn), .ref u7, .int (bB ik), .ref u8, .int (nI ty), .ref u9, .int (nI ta), .int (bB iw), .ref u10, .ref u11])), (u8, .inl (tyI D, 60, .inl (nf tx))), (u5, .inl (tyI D, 208, .inl M)), (u6, .inl (tyI D, 832, .inl Bf))] (fun r_ w_ => ∃ (M9 : Nat → Int32), (RM M9 (apS s (rdP tx ty 60 0 fs fa fk 0).2.2.1 (rdP tx ty 60 0 fs fa fk 0).2.2.2.1 (rdP tx ty 60 0 fs fa fk 0).2.2.2.2.1 (rdP tx ty 60 0 fs fa fk 0).2.2.2.2.2)) ∧ r_ = some (.int (nI ((rdP tx ty 60 0 fs fa fk 0).2.2.2.2.2))) ∧ w_ = [(u0, .inr (9, [.ref u1, .ref u2, .ref u3, .ref u4, .ref u5, .ref u6, .int (nI (rhN kn)), .ref u7, .int (bB ik), .ref u8, .int (nI ty), .ref u9, .int (nI ((rdP tx ty 60 0 fs fa fk 0).2.1)), .int (bB false), .ref u10, .ref u11])), (u8, .inl (tyI D, 60, .inl (nf tx))), (u5, .inl (tyI D, 208, .inl M9)), (u6, .inl (tyI D, 832, .inl (kwF Bf M kn)))]) 0 0 := by
  refine CM_int (own := RX9) (cc := cX9_bowAll) (maxL := 2) (L0 := [(0, .ref u0)]) (by decide) rfl rfl (Nat.le_of_ble_eq_true rfl) rfl (fun X O E => ?_)
  have hrn := rdP_n (tx := tx) (len := ty) 60 0 fs fa fk 0
  refine g_aload_n O dX9_bowAll_0 0 rfl rfl ?_
  refine g_iconst (x := (nI 0)) O dX9_bowAll_1 (by decide +kernel) ?_
  refine g_callV (As := [.int (nI 0)]) (wr := [(u5, .inl (tyI D, 208, .inl M)), (u6, .inl (tyI D, 832, .inl Bf))]) O (kX9_go_f l D z u0 u1 u2 u3 u4 u5 u6 u7 u8 u9 u10 u11 kn ik ty ta iw tx fs fa fk (by first | assumption | omega) (by first | assumption | omega)) gX9_bowAll_X9_go rfl rfl rfl 1 (by decide +kernel) (by decide) (by decide) (q0 := 0) rfl rfl rfl [0, 1] [2, 3] rfl (by decide) rfl (by decide) (by decide) rfl rfl (Nat.le_of_ble_eq_true rfl) dX9_bowAll_2 (fun r_1 w_2 hp => ?_)
  obtain ⟨r9_3, hr9_4, rfl, rfl⟩ := hp
  refine g_eq (st' := [.int r9_3]) (ws' := [(u5, .inl (tyI D, 208, .inl M)), (u6, .inl (tyI D, 832, .inl Bf)), (u0, .inr (9, [.ref u1, .ref u2, .ref u3, .ref u4, .ref u5, .ref u6, .int (nI kn), .ref u7, .int (bB ik), .ref u8, .int (nI ty), .ref u9, .int (nI ((rdP tx ty 60 0 fs fa fk 0).2.1)), .int (bB (!(rdP tx ty 60 0 fs fa fk 0).1)), .ref u10, .ref u11])), (u8, .inl (tyI D, 60, .inl (nf tx)))]) rfl rfl rfl ?_
  refine g_eq (st' := [.int (nI ((rdP tx ty 60 0 fs fa fk 0).2.2.2.2.2))]) (ws' := [(u5, .inl (tyI D, 208, .inl M)), (u6, .inl (tyI D, 832, .inl Bf)), (u0, .inr (9, [.ref u1, .ref u2, .ref u3, .ref u4, .ref u5, .ref u6, .int (nI kn), .ref u7, .int (bB ik), .ref u8, .int (nI ty), .ref u9, .int (nI ((rdP tx ty 60 0 fs fa fk 0).2.1)), .int (bB false), .ref u10, .ref u11])), (u8, .inl (tyI D, 60, .inl (nf tx)))]) (by rw [hr9_4 hb]) rfl (by rw [hb]; rfl) ?_
  refine g_istore_n (L' := [(0, .ref u0), (1, .int (nI ((rdP tx ty 60 0 fs fa fk 0).2.2.2.2.2)))]) O dX9_bowAll_5 rfl (by decide) [1, 0] rfl ?_
  refine g_aload_n O dX9_bowAll_6 0 rfl rfl ?_
  refine g_get O hiX9_bowAll_X9 2 rfl rfl 13 (by decide) (by decide +kernel) rfl dX9_bowAll_7 ?_
  refine g_if_eqB (tgt := 21) O dX9_bowAll_10 (by decide) (fun c_5 => ?_) (fun c_5 => absurd c_5 (by decide))
  refine g_aload_n O dX9_bowAll_21 0 rfl rfl ?_
  refine g_get O hiX9_bowAll_X9 2 rfl rfl 4 (by decide) (by decide +kernel) rfl dX9_bowAll_22 ?_
  refine g_sipush (x := (nI 159)) O dX9_bowAll_25 (by decide +kernel) ?_
  refine g_ialdN O 0 rfl (by omega) (by omega) dX9_bowAll_28 ?_
  refine g_eq (st' := [.int (nI (sv_ps s))]) (by rw [RM_ps hM]) rfl rfl ?_
  refine g_iload_n O dX9_bowAll_29 1 rfl rfl ?_
  refine g_iaddN O dX9_bowAll_30 ?_
  refine g_bipush (x := (nI 16)) O dX9_bowAll_31 (by decide +kernel) ?_
  refine g_icmp_leN (tgt := 39) O (by omega) (by omega) dX9_bowAll_33 (by decide) (fun c_6 => ?_) (fun c_6 => (by exfalso; omega))
  refine g_aload_n O dX9_bowAll_39 0 rfl rfl ?_
  refine g_callV (As := []) (wr := [(u8, .inl (tyI D, 60, .inl (nf tx)))]) O (kX9_know l D z u0 u1 u2 u3 u4 u5 u6 u7 u8 u9 u10 u11 kn ik ty ((rdP tx ty 60 0 fs fa fk 0).2.1) false M Bf (by first | assumption | omega)) gX9_bowAll_X9_know rfl rfl rfl 0 (by decide +kernel) (by decide) (by decide) (q0 := 0) rfl rfl rfl [2, 0, 1] [3] rfl (by decide) rfl (by decide) (by decide) rfl rfl (Nat.le_of_ble_eq_true rfl) dX9_bowAll_40 (fun r_7 w_8 hp => ?_)
  obtain ⟨rfl, rfl⟩ := hp
  refine g_eq (st' := []) (ws' := [(u8, .inl (tyI D, 60, .inl (nf tx))), (u0, .inr (9, [.ref u1, .ref u2, .ref u3, .ref u4, .ref u5, .ref u6, .int (nI (rhN kn)), .ref u7, .int (bB ik), .ref u8, .int (nI ty), .ref u9, .int (nI ((rdP tx ty 60 0 fs fa fk 0).2.1)), .int (bB false), .ref u10, .ref u11])), (u5, .inl (tyI D, 208, .inl M)), (u6, .inl (tyI D, 832, .inl (kwF Bf M kn)))]) rfl rfl rfl ?_
  refine g_aload_n O dX9_bowAll_43 0 rfl rfl ?_
  refine g_iconst (x := (nI 1)) O dX9_bowAll_44 (by decide +kernel) ?_
  refine g_callV (As := [.int (nI 1)]) (wr := [(u6, .inl (tyI D, 832, .inl (kwF Bf M kn)))]) O (kX9_go_t l D z u0 u1 u2 u3 u4 u5 u6 u7 u8 u9 u10 u11 (rhN kn) ik ty ((rdP tx ty 60 0 fs fa fk 0).2.1) false tx fs fa fk M s (by first | assumption | omega) (by first | assumption | omega) (by first | assumption | omega) (by first | assumption | omega) (by first | assumption | omega) (by first | assumption | omega)) gX9_bowAll_X9_go rfl rfl rfl 1 (by decide +kernel) (by decide) (by decide) (q0 := 0) rfl rfl rfl [1, 0, 2] [3] rfl (by decide) rfl (by decide) (by decide) rfl rfl (Nat.le_of_ble_eq_true rfl) dX9_bowAll_45 (fun r_9 w_10 hp => ?_)
  obtain ⟨M9_11, hM9_12, rfl, rfl⟩ := hp
  refine g_eq (st' := [.int (nI ((rdP tx ty 60 0 fs fa fk 0).2.2.2.2.2))]) (ws' := [(u6, .inl (tyI D, 832, .inl (kwF Bf M kn))), (u0, .inr (9, [.ref u1, .ref u2, .ref u3, .ref u4, .ref u5, .ref u6, .int (nI (rhN kn)), .ref u7, .int (bB ik), .ref u8, .int (nI ty), .ref u9, .int (nI ((rdP tx ty 60 0 fs fa fk 0).2.1)), .int (bB false), .ref u10, .ref u11])), (u8, .inl (tyI D, 60, .inl (nf tx))), (u5, .inl (tyI D, 208, .inl M9_11))]) rfl rfl rfl ?_
  refine g_perm (ws' := [(u0, .inr (9, [.ref u1, .ref u2, .ref u3, .ref u4, .ref u5, .ref u6, .int (nI (rhN kn)), .ref u7, .int (bB ik), .ref u8, .int (nI ty), .ref u9, .int (nI ((rdP tx ty 60 0 fs fa fk 0).2.1)), .int (bB false), .ref u10, .ref u11])), (u8, .inl (tyI D, 60, .inl (nf tx))), (u5, .inl (tyI D, 208, .inl M9_11)), (u6, .inl (tyI D, 832, .inl (kwF Bf M kn)))]) [1, 2, 3, 0] rfl (by decide) ?_
  exact E 48 _ (nI ((rdP tx ty 60 0 fs fa fk 0).2.2.2.2.2)) _ dX9_bowAll_48 (⟨_, hM9_12, rfl, rfl⟩)
