set_option maxHeartbeats 2000000 in
set_option maxRecDepth 100000 in
theorem kX9_bow_ok (l : Launch) (D : va_G) (z : Nat × Nat × Nat) (u0 : Nat) (u1 : Nat) (u2 : Nat) (u3 : Nat) (u4 : Nat) (u5 : Nat) (u6 : Nat) (u7 : Nat) (u8 : Nat) (u9 : Nat) (u10 : Nat) (u11 : Nat) (kn : Nat) (ik : Bool) (ty : Nat) (ta : Nat) (iw : Bool) (M : Nat → Int32) (Bf : Nat → Int32) (s : SV) (x : Nat) (y : Nat) (k : Nat) (hM : RM M s) (hkn : kn ≤ 4) (hx : x < 4) (hy : y < 12) (hk1 : 1 ≤ k) (hk2 : k ≤ 20) (hb : sv_ps s < 16) (hnc : sv_nc s ≤ 4) : CM l yX9_bow wsX9_bow ({ frames := 2, cells := 0, slots := 0, locals := 43 } : Room) D z [.ref u0, .int (nI x), .int (nI y), .int (nI k)] [(u0, .inr (9, [.ref u1, .ref u2, .ref u3, .ref u4, .ref u5, .ref u6, .int (nI kn), .ref u7, .int (bB ik), .ref u8, .int (nI ty), .ref u9, .int (nI ta), .int (bB iw), .ref u10, .ref u11])), (u5, .inl (tyI D, 208, .inl M)), (u6, .inl (tyI D, 832, .inl Bf))] (fun r_ w_ => ∃ (M9 : Nat → Int32), (RM M9 (mkS (sv_g s) (sv_cc s) (sv_cr s) (sv_nc s) (sv_se s) (upf (sv_fs s) (sv_ps s) x) (upf (sv_fa s) (sv_ps s) y) (upf (sv_fk s) (sv_ps s) k) (sv_ps s + 1) (sv_la s) (sv_st s) (sv_sw s) (sv_fl s) (sv_sk s) (sv_mu s))) ∧ r_ = some (.int (nI (sv_ps s + 1))) ∧ w_ = [(u0, .inr (9, [.ref u1, .ref u2, .ref u3, .ref u4, .ref u5, .ref u6, .int (nI (rhN kn)), .ref u7, .int (bB ik), .ref u8, .int (nI ty), .ref u9, .int (nI ta), .int (bB iw), .ref u10, .ref u11])), (u5, .inl (tyI D, 208, .inl M9)), (u6, .inl (tyI D, 832, .inl (kwF Bf M kn)))]) 0 0 := by
  refine CM_int (own := RX9) (cc := cX9_bow) (maxL := 4) (L0 := [(0, .ref u0), (1, .int (nI x)), (2, .int (nI y)), (3, .int (nI k))]) (by decide) rfl rfl (Nat.le_of_ble_eq_true rfl) rfl (fun X O E => ?_)
  refine g_iload_n O dX9_bow_0 1 rfl rfl ?_
  refine g_iload_n O dX9_bow_1 2 rfl rfl ?_
  refine g_callS (As := [.int (nI x), .int (nI y)]) (wr := [(u0, .inr (9, [.ref u1, .ref u2, .ref u3, .ref u4, .ref u5, .ref u6, .int (nI kn), .ref u7, .int (bB ik), .ref u8, .int (nI ty), .ref u9, .int (nI ta), .int (bB iw), .ref u10, .ref u11])), (u5, .inl (tyI D, 208, .inl M)), (u6, .inl (tyI D, 832, .inl Bf))]) O (kX9_isBow l D z (nI x) (nI y) ) gX9_bow_X9_isBow rfl rfl rfl 2 (by decide +kernel) (by decide) (by decide) [] [0, 1, 2] rfl (by decide) rfl (by decide) (by decide) rfl rfl (Nat.le_of_ble_eq_true rfl) dX9_bow_2 (fun r_1 w_2 hp => ?_)
  obtain ⟨rfl, rfl⟩ := hp
  refine g_eq (st' := [.int (bB (rgB (nI x) 4 && rgB (nI y) 12))]) (ws' := [(u0, .inr (9, [.ref u1, .ref u2, .ref u3, .ref u4, .ref u5, .ref u6, .int (nI kn), .ref u7, .int (bB ik), .ref u8, .int (nI ty), .ref u9, .int (nI ta), .int (bB iw), .ref u10, .ref u11])), (u5, .inl (tyI D, 208, .inl M)), (u6, .inl (tyI D, 832, .inl Bf))]) rfl rfl rfl ?_
  refine g_if_neB (tgt := 10) O dX9_bow_5 (by decide) (fun c_3 => ?_) (fun c_3 => absurd c_3 (by rw [rgB_t hx (by decide), rgB_t hy (by decide)]; decide))
  refine g_iload_n O dX9_bow_10 3 rfl rfl ?_
  refine g_iconst (x := (nI 1)) O dX9_bow_11 (by decide +kernel) ?_
  refine g_bipush (x := (nI 20)) O dX9_bow_12 (by decide +kernel) ?_
  refine g_callS (As := [.int (nI k), .int (nI 1), .int (nI 20)]) (wr := [(u0, .inr (9, [.ref u1, .ref u2, .ref u3, .ref u4, .ref u5, .ref u6, .int (nI kn), .ref u7, .int (bB ik), .ref u8, .int (nI ty), .ref u9, .int (nI ta), .int (bB iw), .ref u10, .ref u11])), (u5, .inl (tyI D, 208, .inl M)), (u6, .inl (tyI D, 832, .inl Bf))]) O (kX9_in l D z (nI k) (nI 1) (nI 20) ) gX9_bow_X9_in rfl rfl rfl 3 (by decide +kernel) (by decide) (by decide) [] [0, 1, 2] rfl (by decide) rfl (by decide) (by decide) rfl rfl (Nat.le_of_ble_eq_true rfl) dX9_bow_14 (fun r_4 w_5 hp => ?_)
  obtain ⟨rfl, rfl⟩ := hp
  refine g_eq (st' := [.int (bB (inI (nI k) (nI 1) (nI 20)))]) (ws' := [(u0, .inr (9, [.ref u1, .ref u2, .ref u3, .ref u4, .ref u5, .ref u6, .int (nI kn), .ref u7, .int (bB ik), .ref u8, .int (nI ty), .ref u9, .int (nI ta), .int (bB iw), .ref u10, .ref u11])), (u5, .inl (tyI D, 208, .inl M)), (u6, .inl (tyI D, 832, .inl Bf))]) rfl rfl rfl ?_
  refine g_if_neB (tgt := 23) O dX9_bow_17 (by decide) (fun c_6 => ?_) (fun c_6 => absurd c_6 (by rw [inI_t (nI_le (a := 1) (by omega) (by omega)) (nI_le (b := 20) (by omega) (by omega))]; decide))
  refine g_aload_n O dX9_bow_23 0 rfl rfl ?_
  refine g_get O hiX9_bow_X9 0 rfl rfl 4 (by decide) (by decide +kernel) rfl dX9_bow_24 ?_
  refine g_sipush (x := (nI 159)) O dX9_bow_27 (by decide +kernel) ?_
  refine g_ialdN O 1 rfl (by omega) (by omega) dX9_bow_30 ?_
  refine g_eq (st' := [.int (nI (sv_ps s))]) (by rw [RM_ps hM]) rfl rfl ?_
  refine g_bipush (x := (nI 16)) O dX9_bow_31 (by decide +kernel) ?_
  refine g_icmp_neN (tgt := 39) O (by omega) (by omega) dX9_bow_33 (by decide) (fun c_7 => ?_) (fun c_7 => (by exfalso; omega))
  refine g_aload_n O dX9_bow_39 0 rfl rfl ?_
  refine g_callV (As := []) (wr := []) O (kX9_know l D z u0 u1 u2 u3 u4 u5 u6 u7 u8 u9 u10 u11 kn ik ty ta iw M Bf (by first | assumption | omega)) gX9_bow_X9_know rfl rfl rfl 0 (by decide +kernel) (by decide) (by decide) (q0 := 0) rfl rfl rfl [0, 1, 2] [] rfl (by decide) rfl (by decide) (by decide) rfl rfl (Nat.le_of_ble_eq_true rfl) dX9_bow_40 (fun r_8 w_9 hp => ?_)
  obtain ⟨rfl, rfl⟩ := hp
  refine g_eq (st' := []) (ws' := [(u0, .inr (9, [.ref u1, .ref u2, .ref u3, .ref u4, .ref u5, .ref u6, .int (nI (rhN kn)), .ref u7, .int (bB ik), .ref u8, .int (nI ty), .ref u9, .int (nI ta), .int (bB iw), .ref u10, .ref u11])), (u5, .inl (tyI D, 208, .inl M)), (u6, .inl (tyI D, 832, .inl (kwF Bf M kn)))]) rfl rfl rfl ?_
  refine g_aload_n O dX9_bow_43 0 rfl rfl ?_
  refine g_iload_n O dX9_bow_44 1 rfl rfl ?_
  refine g_iload_n O dX9_bow_45 2 rfl rfl ?_
  refine g_iload_n O dX9_bow_46 3 rfl rfl ?_
  refine g_callV (As := [.int (nI x), .int (nI y), .int (nI k)]) (wr := [(u6, .inl (tyI D, 832, .inl (kwF Bf M kn)))]) O (kX9_waits l D z u0 u1 u2 u3 u4 u5 u6 u7 u8 u9 u10 u11 (rhN kn) ik ty ta iw M s x y k (by first | assumption | omega) (by first | assumption | omega) (by first | assumption | omega)) gX9_bow_X9_waits rfl rfl rfl 3 (by decide +kernel) (by decide) (by decide) (q0 := 0) rfl rfl rfl [0, 1] [2] rfl (by decide) rfl (by decide) (by decide) rfl rfl (Nat.le_of_ble_eq_true rfl) dX9_bow_47 (fun r_10 w_11 hp => ?_)
  obtain ⟨M9_12, hM9_13, rfl, rfl⟩ := hp
  refine g_eq (st' := [.int (nI (sv_ps s + 1))]) (ws' := [(u6, .inl (tyI D, 832, .inl (kwF Bf M kn))), (u0, .inr (9, [.ref u1, .ref u2, .ref u3, .ref u4, .ref u5, .ref u6, .int (nI (rhN kn)), .ref u7, .int (bB ik), .ref u8, .int (nI ty), .ref u9, .int (nI ta), .int (bB iw), .ref u10, .ref u11])), (u5, .inl (tyI D, 208, .inl M9_12))]) rfl rfl rfl ?_
  refine g_perm (ws' := [(u0, .inr (9, [.ref u1, .ref u2, .ref u3, .ref u4, .ref u5, .ref u6, .int (nI (rhN kn)), .ref u7, .int (bB ik), .ref u8, .int (nI ty), .ref u9, .int (nI ta), .int (bB iw), .ref u10, .ref u11])), (u5, .inl (tyI D, 208, .inl M9_12)), (u6, .inl (tyI D, 832, .inl (kwF Bf M kn)))]) [1, 2, 0] rfl (by decide) ?_
  exact E 50 _ (nI (sv_ps s + 1)) _ dX9_bow_50 (⟨_, hM9_13, rfl, rfl⟩)

theorem hiX9_type_X9 : ∀ w ∈ wsX90, w ∈ wsX9_type := by intro w h; simp only [wsX9_type, List.mem_append, List.mem_cons, h, or_true, true_or]
set_option maxHeartbeats 2000000 in
set_option maxRecDepth 100000 in
theorem kX9_type_b1 (l : Launch) (D : va_G) (z : Nat × Nat × Nat) (u0 : Nat) (u1 : Nat) (u2 : Nat) (u3 : Nat) (u4 : Nat) (u5 : Nat) (u6 : Nat) (u7 : Nat) (u8 : Nat) (u9 : Nat) (u10 : Nat) (u11 : Nat) (kn : Nat) (ik : Bool) (ty : Nat) (ta : Nat) (iw : Bool) (x : Nat) (hb : ty = 60) : CM l yX9_type wsX9_type ({ frames := 0, cells := 0, slots := 0, locals := 0 } : Room) D z [.ref u0, .int (nI x)] [(u0, .inr (9, [.ref u1, .ref u2, .ref u3, .ref u4, .ref u5, .ref u6, .int (nI kn), .ref u7, .int (bB ik), .ref u8, .int (nI ty), .ref u9, .int (nI ta), .int (bB iw), .ref u10, .ref u11]))] (fun r_ w_ => r_ = some (.int (-3)) ∧ w_ = [(u0, .inr (9, [.ref u1, .ref u2, .ref u3, .ref u4, .ref u5, .ref u6, .int (nI kn), .ref u7, .int (bB ik), .ref u8, .int (nI ty), .ref u9, .int (nI ta), .int (bB iw), .ref u10, .ref u11]))]) 0 0 := by
  refine CM_int (own := RX9) (cc := cX9_type) (maxL := 2) (L0 := [(0, .ref u0), (1, .int (nI x))]) (by decide) rfl rfl (Nat.le_of_ble_eq_true rfl) rfl (fun X O E => ?_)
  refine g_aload_n O dX9_type_0 0 rfl rfl ?_
  refine g_get O hiX9_type_X9 0 rfl rfl 10 (by decide) (by decide +kernel) rfl dX9_type_1 ?_
  refine g_bipush (x := (nI 60)) O dX9_type_4 (by decide +kernel) ?_
  refine g_icmp_neN (tgt := 12) O (by omega) (by omega) dX9_type_6 (by decide) (fun c_1 => absurd c_1 (fun h => h hb)) (fun c_1 => ?_)
  refine g_bipush (x := (-3)) O dX9_type_9 (by decide +kernel) ?_
  exact E 11 _ (-3) _ dX9_type_11 ⟨rfl, rfl⟩

set_option maxHeartbeats 2000000 in
set_option maxRecDepth 100000 in
theorem kX9_type_ok (l : Launch) (D : va_G) (z : Nat × Nat × Nat) (u0 : Nat) (u1 : Nat) (u2 : Nat) (u3 : Nat) (u4 : Nat) (u5 : Nat) (u6 : Nat) (u7 : Nat) (u8 : Nat) (u9 : Nat) (u10 : Nat) (u11 : Nat) (kn : Nat) (ik : Bool) (ty : Nat) (ta : Nat) (iw : Bool) (tx : Nat → Nat) (x : Nat) (hb : ty < 60) : CM l yX9_type wsX9_type ({ frames := 0, cells := 0, slots := 0, locals := 0 } : Room) D z [.ref u0, .int (nI x)] [(u0, .inr (9, [.ref u1, .ref u2, .ref u3, .ref u4, .ref u5, .ref u6, .int (nI kn), .ref u7, .int (bB ik), .ref u8, .int (nI ty), .ref u9, .int (nI ta), .int (bB iw), .ref u10, .ref u11])), (u8, .inl (tyI D, 60, .inl (nf tx)))] (fun r_ w_ => r_ = some (.int (nI (ty + 1))) ∧ w_ = [(u0, .inr (9, [.ref u1, .ref u2, .ref u3, .ref u4, .ref u5, .ref u6, .int (nI kn), .ref u7, .int (bB ik), .ref u8, .int (nI (ty + 1)), .ref u9, .int (nI ta), .int (bB iw), .ref u10, .ref u11])), (u8, .inl (tyI D, 60, .inl (nf (upf tx ty x))))]) 0 0 := by
  refine CM_int (own := RX9) (cc := cX9_type) (maxL := 2) (L0 := [(0, .ref u0), (1, .int (nI x))]) (by decide) rfl rfl (Nat.le_of_ble_eq_true rfl) rfl (fun X O E => ?_)
  refine g_aload_n O dX9_type_0 0 rfl rfl ?_
  refine g_get O hiX9_type_X9 0 rfl rfl 10 (by decide) (by decide +kernel) rfl dX9_type_1 ?_
  refine g_bipush (x := (nI 60)) O dX9_type_4 (by decide +kernel) ?_
  refine g_icmp_neN (tgt := 12) O (by omega) (by omega) dX9_type_6 (by decide) (fun c_1 => ?_) (fun c_1 => (by exfalso; omega))
  refine g_aload_n O dX9_type_12 0 rfl rfl ?_
  refine g_get O hiX9_type_X9 0 rfl rfl 9 (by decide) (by decide +kernel) rfl dX9_type_13 ?_
  refine g_aload_n O dX9_type_16 0 rfl rfl ?_
  refine g_get O hiX9_type_X9 0 rfl rfl 10 (by decide) (by decide +kernel) rfl dX9_type_17 ?_
  refine g_iload_n O dX9_type_20 1 rfl rfl ?_
  refine g_iastN (f' := (nf (upf tx ty x))) (ws' := [(u0, .inr (9, [.ref u1, .ref u2, .ref u3, .ref u4, .ref u5, .ref u6, .int (nI kn), .ref u7, .int (bB ik), .ref u8, .int (nI ty), .ref u9, .int (nI ta), .int (bB iw), .ref u10, .ref u11])), (u8, .inl (tyI D, 60, .inl (nf (upf tx ty x))))]) O 1 rfl (by omega) (by omega) dX9_type_21 (nf_upd _ _ _) rfl ?_
  refine g_aload_n O dX9_type_22 0 rfl rfl ?_
  refine g_dup O dX9_type_23 rfl ?_
  refine g_get O hiX9_type_X9 0 rfl rfl 10 (by decide) (by decide +kernel) rfl dX9_type_24 ?_
  refine g_iconst (x := (nI 1)) O dX9_type_27 (by decide +kernel) ?_
  refine g_iaddN O dX9_type_28 ?_
  refine g_put (ws' := [(u0, .inr (9, [.ref u1, .ref u2, .ref u3, .ref u4, .ref u5, .ref u6, .int (nI kn), .ref u7, .int (bB ik), .ref u8, .int (nI (ty + 1)), .ref u9, .int (nI ta), .int (bB iw), .ref u10, .ref u11])), (u8, .inl (tyI D, 60, .inl (nf (upf tx ty x))))]) O hiX9_type_X9 tyX9 tyX9_ok nmX9 0 rfl rfl 10 (by decide) (by decide +kernel) rfl (tyX9_ok 10 (by decide)) rfl rfl (Nat.le_of_ble_eq_true rfl) dX9_type_29 rfl ?_
  refine g_aload_n O dX9_type_32 0 rfl rfl ?_
  refine g_get O hiX9_type_X9 0 rfl rfl 10 (by decide) (by decide +kernel) rfl dX9_type_33 ?_
  exact E 36 _ (nI (ty + 1)) _ dX9_type_36 ⟨rfl, rfl⟩

theorem hiX9_clearText_X9 : ∀ w ∈ wsX90, w ∈ wsX9_clearText := by intro w h; simp only [wsX9_clearText, List.mem_append, List.mem_cons, h, or_true, true_or]
set_option maxHeartbeats 2000000 in
set_option maxRecDepth 100000 in
theorem kX9_clearText (l : Launch) (D : va_G) (z : Nat × Nat × Nat) (u0 : Nat) (u1 : Nat) (u2 : Nat) (u3 : Nat) (u4 : Nat) (u5 : Nat) (u6 : Nat) (u7 : Nat) (u8 : Nat) (u9 : Nat) (u10 : Nat) (u11 : Nat) (kn : Nat) (ik : Bool) (ty : Nat) (ta : Nat) (iw : Bool)  : CM l yX9_clearText wsX9_clearText ({ frames := 0, cells := 0, slots := 0, locals := 0 } : Room) D z [.ref u0] [(u0, .inr (9, [.ref u1, .ref u2, .ref u3, .ref u4, .ref u5, .ref u6, .int (nI kn), .ref u7, .int (bB ik), .ref u8, .int (nI ty), .ref u9, .int (nI ta), .int (bB iw), .ref u10, .ref u11]))] (fun r_ w_ => r_ = some (.int (nI ty)) ∧ w_ = [(u0, .inr (9, [.ref u1, .ref u2, .ref u3, .ref u4, .ref u5, .ref u6, .int (nI kn), .ref u7, .int (bB ik), .ref u8, .int (nI 0), .ref u9, .int (nI ta), .int (bB iw), .ref u10, .ref u11]))]) 0 0 := by
  refine CM_int (own := RX9) (cc := cX9_clearText) (maxL := 2) (L0 := [(0, .ref u0)]) (by decide) rfl rfl (Nat.le_of_ble_eq_true rfl) rfl (fun X O E => ?_)
  refine g_aload_n O dX9_clearText_0 0 rfl rfl ?_
  refine g_get O hiX9_clearText_X9 0 rfl rfl 10 (by decide) (by decide +kernel) rfl dX9_clearText_1 ?_
  refine g_istore_n (L' := [(0, .ref u0), (1, .int (nI ty))]) O dX9_clearText_4 rfl (by decide) [1, 0] rfl ?_
  refine g_aload_n O dX9_clearText_5 0 rfl rfl ?_
  refine g_iconst (x := (nI 0)) O dX9_clearText_6 (by decide +kernel) ?_
  refine g_put (ws' := [(u0, .inr (9, [.ref u1, .ref u2, .ref u3, .ref u4, .ref u5, .ref u6, .int (nI kn), .ref u7, .int (bB ik), .ref u8, .int (nI 0), .ref u9, .int (nI ta), .int (bB iw), .ref u10, .ref u11]))]) O hiX9_clearText_X9 tyX9 tyX9_ok nmX9 0 rfl rfl 10 (by decide) (by decide +kernel) rfl (tyX9_ok 10 (by decide)) rfl rfl (Nat.le_of_ble_eq_true rfl) dX9_clearText_7 rfl ?_
  refine g_iload_n O dX9_clearText_10 1 rfl rfl ?_
  exact E 11 _ (nI ty) _ dX9_clearText_11 ⟨rfl, rfl⟩

theorem hiX9_undo_X9 : ∀ w ∈ wsX90, w ∈ wsX9_undo := by intro w h; simp only [wsX9_undo, List.mem_append, List.mem_cons, h, or_true, true_or]
set_option maxHeartbeats 2000000 in
set_option maxRecDepth 100000 in
/-- undo, none -/
theorem kX9_undo_b1 (l : Launch) (D : va_G) (z : Nat × Nat × Nat) (u0 : Nat) (u1 : Nat) (u2 : Nat) (u3 : Nat) (u4 : Nat) (u5 : Nat) (u6 : Nat) (u7 : Nat) (u8 : Nat) (u9 : Nat) (u10 : Nat) (u11 : Nat) (ik : Bool) (ty : Nat) (ta : Nat) (iw : Bool)  : CM l yX9_undo wsX9_undo ({ frames := 0, cells := 0, slots := 0, locals := 0 } : Room) D z [.ref u0] [(u0, .inr (9, [.ref u1, .ref u2, .ref u3, .ref u4, .ref u5, .ref u6, .int (nI 0), .ref u7, .int (bB ik), .ref u8, .int (nI ty), .ref u9, .int (nI ta), .int (bB iw), .ref u10, .ref u11]))] (fun r_ w_ => r_ = some (.int (-5)) ∧ w_ = [(u0, .inr (9, [.ref u1, .ref u2, .ref u3, .ref u4, .ref u5, .ref u6, .int (nI 0), .ref u7, .int (bB ik), .ref u8, .int (nI ty), .ref u9, .int (nI ta), .int (bB iw), .ref u10, .ref u11]))]) 0 0 := by
  refine CM_int (own := RX9) (cc := cX9_undo) (maxL := 2) (L0 := [(0, .ref u0)]) (by decide) rfl rfl (Nat.le_of_ble_eq_true rfl) rfl (fun X O E => ?_)
  refine g_aload_n O dX9_undo_0 0 rfl rfl ?_
  refine g_get O hiX9_undo_X9 0 rfl rfl 6 (by decide) (by decide +kernel) rfl dX9_undo_1 ?_
  refine g_if_neN (tgt := 10) O (by omega) dX9_undo_4 (by decide) (fun c_1 => absurd c_1 (by decide)) (fun c_1 => ?_)
  refine g_bipush (x := (-5)) O dX9_undo_7 (by decide +kernel) ?_
  exact E 9 _ (-5) _ dX9_undo_9 ⟨rfl, rfl⟩

set_option maxHeartbeats 2000000 in
set_option maxRecDepth 100000 in
/-- undo -/
theorem kX9_undo_ok (l : Launch) (D : va_G) (z : Nat × Nat × Nat) (u0 : Nat) (u1 : Nat) (u2 : Nat) (u3 : Nat) (u4 : Nat) (u5 : Nat) (u6 : Nat) (u7 : Nat) (u8 : Nat) (u9 : Nat) (u10 : Nat) (u11 : Nat) (kn : Nat) (ik : Bool) (ty : Nat) (ta : Nat) (iw : Bool) (M : Nat → Int32) (Bf : Nat → Int32) (h0_ : 0 < kn) (hkn : kn ≤ 4) : CM l yX9_undo wsX9_undo ({ frames := 0, cells := 0, slots := 0, locals := 0 } : Room) D z [.ref u0] [(u0, .inr (9, [.ref u1, .ref u2, .ref u3, .ref u4, .ref u5, .ref u6, .int (nI kn), .ref u7, .int (bB ik), .ref u8, .int (nI ty), .ref u9, .int (nI ta), .int (bB iw), .ref u10, .ref u11])), (u5, .inl (tyI D, 208, .inl M)), (u6, .inl (tyI D, 832, .inl Bf))] (fun r_ w_ => r_ = some (.int (nI (kn - 1))) ∧ w_ = [(u0, .inr (9, [.ref u1, .ref u2, .ref u3, .ref u4, .ref u5, .ref u6, .int (nI (kn - 1)), .ref u7, .int (bB ik), .ref u8, .int (nI ty), .ref u9, .int (nI ta), .int (bB iw), .ref u10, .ref u11])), (u5, .inl (tyI D, 208, .inl (cpF M (fun j => Bf ((208 * (kn - 1)) + j)) 208))), (u6, .inl (tyI D, 832, .inl Bf))]) 0 0 := by
  refine CM_int (own := RX9) (cc := cX9_undo) (maxL := 2) (L0 := [(0, .ref u0)]) (by decide) rfl rfl (Nat.le_of_ble_eq_true rfl) rfl (fun X O E => ?_)
  refine g_aload_n O dX9_undo_0 0 rfl rfl ?_
  refine g_get O hiX9_undo_X9 0 rfl rfl 6 (by decide) (by decide +kernel) rfl dX9_undo_1 ?_
  refine g_if_neN (tgt := 10) O (by omega) dX9_undo_4 (by decide) (fun c_1 => ?_) (fun c_1 => (by exfalso; omega))
  refine g_aload_n O dX9_undo_10 0 rfl rfl ?_
  refine g_dup O dX9_undo_11 rfl ?_
  refine g_get O hiX9_undo_X9 0 rfl rfl 6 (by decide) (by decide +kernel) rfl dX9_undo_12 ?_
  refine g_iconst (x := (nI 1)) O dX9_undo_15 (by decide +kernel) ?_
  refine g_isubN O (by omega) dX9_undo_16 ?_
  refine g_put (ws' := [(u0, .inr (9, [.ref u1, .ref u2, .ref u3, .ref u4, .ref u5, .ref u6, .int (nI (kn - 1)), .ref u7, .int (bB ik), .ref u8, .int (nI ty), .ref u9, .int (nI ta), .int (bB iw), .ref u10, .ref u11])), (u5, .inl (tyI D, 208, .inl M)), (u6, .inl (tyI D, 832, .inl Bf))]) O hiX9_undo_X9 tyX9 tyX9_ok nmX9 0 rfl rfl 6 (by decide) (by decide +kernel) rfl (tyX9_ok 6 (by decide)) rfl rfl (Nat.le_of_ble_eq_true rfl) dX9_undo_17 rfl ?_
  refine g_iconst (x := (nI 0)) O dX9_undo_20 (by decide +kernel) ?_
  refine g_istore_n (L' := [(0, .ref u0), (1, .int (nI 0))]) O dX9_undo_21 rfl (by decide) [1, 0] rfl ?_
  have J22 : ∀ (n_ : Nat), ∀ (i_ : Nat) (F_ : Nat → Int32) (hi_ : i_ ≤ 208) (hF : F_ = cpF M (fun j => Bf ((208 * (kn - 1)) + j)) i_), 208 - i_ < n_ → G X 0 0 22 [(0, .ref u0), (1, .int (nI i_))] [] [(u0, .inr (9, [.ref u1, .ref u2, .ref u3, .ref u4, .ref u5, .ref u6, .int (nI (kn - 1)), .ref u7, .int (bB ik), .ref u8, .int (nI ty), .ref u9, .int (nI ta), .int (bB iw), .ref u10, .ref u11])), (u5, .inl (tyI D, 208, .inl F_)), (u6, .inl (tyI D, 832, .inl Bf))] := by
    intro n_
    induction n_ with
    | zero => intro i_ F_ hi_ hF hm_; exact absurd hm_ (Nat.not_lt_zero _)
    | succ n_ ih_ =>
      intro i_ F_ hi_ hF hm_
      refine g_iload_n O dX9_undo_22 1 rfl rfl ?_
      refine g_sipush (x := (nI 208)) O dX9_undo_23 (by decide +kernel) ?_
      refine g_icmp_geN (tgt := 56) O (by omega) (by omega) dX9_undo_26 (by decide) (fun c_2 => ?_) (fun c_2 => ?_)
      ·
        obtain rfl : i_ = 208 := by omega
        subst hF
        refine g_aload_n O dX9_undo_56 0 rfl rfl ?_
        refine g_get O hiX9_undo_X9 0 rfl rfl 6 (by decide) (by decide +kernel) rfl dX9_undo_57 ?_
        exact E 60 _ (nI (kn - 1)) _ dX9_undo_60 ⟨rfl, rfl⟩
      ·
        refine g_aload_n O dX9_undo_29 0 rfl rfl ?_
        refine g_get O hiX9_undo_X9 0 rfl rfl 4 (by decide) (by decide +kernel) rfl dX9_undo_30 ?_
        refine g_iload_n O dX9_undo_33 1 rfl rfl ?_
        refine g_aload_n O dX9_undo_34 0 rfl rfl ?_
        refine g_get O hiX9_undo_X9 0 rfl rfl 5 (by decide) (by decide +kernel) rfl dX9_undo_35 ?_
        refine g_sipush (x := (nI 208)) O dX9_undo_38 (by decide +kernel) ?_
        refine g_aload_n O dX9_undo_41 0 rfl rfl ?_
        refine g_get O hiX9_undo_X9 0 rfl rfl 6 (by decide) (by decide +kernel) rfl dX9_undo_42 ?_
        refine g_imulN O dX9_undo_45 ?_
        refine g_iload_n O dX9_undo_46 1 rfl rfl ?_
        refine g_iaddN O dX9_undo_47 ?_
        refine g_ialdN O 2 rfl (by omega) (by omega) dX9_undo_48 ?_
        refine g_iastN (f' := (upd F_ i_ (Bf ((208 * (kn - 1)) + i_)))) (ws' := [(u0, .inr (9, [.ref u1, .ref u2, .ref u3, .ref u4, .ref u5, .ref u6, .int (nI (kn - 1)), .ref u7, .int (bB ik), .ref u8, .int (nI ty), .ref u9, .int (nI ta), .int (bB iw), .ref u10, .ref u11])), (u5, .inl (tyI D, 208, .inl (upd F_ i_ (Bf ((208 * (kn - 1)) + i_))))), (u6, .inl (tyI D, 832, .inl Bf))]) O 1 rfl (by omega) (by omega) dX9_undo_49 rfl rfl ?_
        refine g_iincN (L' := [(0, .ref u0), (1, .int (nI (i_ + 1)))]) O dX9_undo_50 1 rfl (by decide) [1, 0] rfl ?_
        refine g_goto (tgt := 22) O dX9_undo_53 (by decide) ?_
        exact ih_ (i_ + 1) _ (by first | assumption | omega | rfl) (by rw [hF]; exact cpF_s _ _ _) (by omega)
  exact J22 _ 0 M (Nat.zero_le _) ((cpF_0 _ _).symm) (Nat.lt_succ_self _)

theorem hiX9_keep_X9 : ∀ w ∈ wsX90, w ∈ wsX9_keep := by intro w h; simp only [wsX9_keep, List.mem_append, List.mem_cons, h, or_true, true_or]
set_option maxHeartbeats 2000000 in
set_option maxRecDepth 100000 in
/-- keep -/
theorem kX9_keep (l : Launch) (D : va_G) (z : Nat × Nat × Nat) (u0 : Nat) (u1 : Nat) (u2 : Nat) (u3 : Nat) (u4 : Nat) (u5 : Nat) (u6 : Nat) (u7 : Nat) (u8 : Nat) (u9 : Nat) (u10 : Nat) (u11 : Nat) (kn : Nat) (ik : Bool) (ty : Nat) (ta : Nat) (iw : Bool) (M : Nat → Int32) (Kp : Nat → Int32) (s : SV) (hM : RM M s) : CM l yX9_keep wsX9_keep ({ frames := 1, cells := 0, slots := 0, locals := 22 } : Room) D z [.ref u0] [(u0, .inr (9, [.ref u1, .ref u2, .ref u3, .ref u4, .ref u5, .ref u6, .int (nI kn), .ref u7, .int (bB ik), .ref u8, .int (nI ty), .ref u9, .int (nI ta), .int (bB iw), .ref u10, .ref u11])), (u5, .inl (tyI D, 208, .inl M)), (u7, .inl (tyI D, 208, .inl Kp))] (fun r_ w_ => r_ = some (.int (nI (smN (sv_g s) 144))) ∧ w_ = [(u0, .inr (9, [.ref u1, .ref u2, .ref u3, .ref u4, .ref u5, .ref u6, .int (nI kn), .ref u7, .int (bB true), .ref u8, .int (nI ty), .ref u9, .int (nI ta), .int (bB iw), .ref u10, .ref u11])), (u5, .inl (tyI D, 208, .inl M)), (u7, .inl (tyI D, 208, .inl (cpF Kp M 208)))]) 0 0 := by
  refine CM_int (own := RX9) (cc := cX9_keep) (maxL := 2) (L0 := [(0, .ref u0)]) (by decide) rfl rfl (Nat.le_of_ble_eq_true rfl) rfl (fun X O E => ?_)
  refine g_iconst (x := (nI 0)) O dX9_keep_0 (by decide +kernel) ?_
  refine g_istore_n (L' := [(0, .ref u0), (1, .int (nI 0))]) O dX9_keep_1 rfl (by decide) [1, 0] rfl ?_
  have J2 : ∀ (n_ : Nat), ∀ (i_ : Nat) (F_ : Nat → Int32) (hi_ : i_ ≤ 208) (hF : F_ = cpF Kp M i_), 208 - i_ < n_ → G X 0 0 2 [(0, .ref u0), (1, .int (nI i_))] [] [(u0, .inr (9, [.ref u1, .ref u2, .ref u3, .ref u4, .ref u5, .ref u6, .int (nI kn), .ref u7, .int (bB ik), .ref u8, .int (nI ty), .ref u9, .int (nI ta), .int (bB iw), .ref u10, .ref u11])), (u5, .inl (tyI D, 208, .inl M)), (u7, .inl (tyI D, 208, .inl F_))] := by
    intro n_
    induction n_ with
    | zero => intro i_ F_ hi_ hF hm_; exact absurd hm_ (Nat.not_lt_zero _)
    | succ n_ ih_ =>
      intro i_ F_ hi_ hF hm_
      refine g_iload_n O dX9_keep_2 1 rfl rfl ?_
      refine g_sipush (x := (nI 208)) O dX9_keep_3 (by decide +kernel) ?_
      refine g_icmp_geN (tgt := 27) O (by omega) (by omega) dX9_keep_6 (by decide) (fun c_1 => ?_) (fun c_1 => ?_)
      ·
        obtain rfl : i_ = 208 := by omega
        subst hF
        refine g_aload_n O dX9_keep_27 0 rfl rfl ?_
        refine g_iconst (x := (nI 1)) O dX9_keep_28 (by decide +kernel) ?_
        refine g_eq (st' := [.int (bB true), .ref u0]) rfl rfl rfl ?_
        refine g_put (ws' := [(u0, .inr (9, [.ref u1, .ref u2, .ref u3, .ref u4, .ref u5, .ref u6, .int (nI kn), .ref u7, .int (bB true), .ref u8, .int (nI ty), .ref u9, .int (nI ta), .int (bB iw), .ref u10, .ref u11])), (u5, .inl (tyI D, 208, .inl M)), (u7, .inl (tyI D, 208, .inl (cpF Kp M 208)))]) O hiX9_keep_X9 tyX9 tyX9_ok nmX9 0 rfl rfl 8 (by decide) (by decide +kernel) rfl (tyX9_ok 8 (by decide)) (bB_nn _) (bB_fit _) (Nat.le_of_ble_eq_true rfl) dX9_keep_29 rfl ?_
        refine g_aload_n O dX9_keep_32 0 rfl rfl ?_
        refine g_callV (As := []) (wr := [(u7, .inl (tyI D, 208, .inl (cpF Kp M 208)))]) O (kX9_allGrains l D z u0 u1 u2 u3 u4 u5 u6 u7 u8 u9 u10 u11 kn true ty ta iw M s (by first | assumption | omega)) gX9_keep_X9_allGrains rfl rfl rfl 0 (by decide +kernel) (by decide) (by decide) (q0 := 0) rfl rfl rfl [0, 1] [2] rfl (by decide) rfl (by decide) (by decide) rfl rfl (Nat.le_of_ble_eq_true rfl) dX9_keep_33 (fun r_2 w_3 hp => ?_)
        obtain ⟨rfl, rfl⟩ := hp
        refine g_eq (st' := [.int (nI (smN (sv_g s) 144))]) (ws' := [(u7, .inl (tyI D, 208, .inl (cpF Kp M 208))), (u0, .inr (9, [.ref u1, .ref u2, .ref u3, .ref u4, .ref u5, .ref u6, .int (nI kn), .ref u7, .int (bB true), .ref u8, .int (nI ty), .ref u9, .int (nI ta), .int (bB iw), .ref u10, .ref u11])), (u5, .inl (tyI D, 208, .inl M))]) rfl rfl rfl ?_
        refine g_perm (ws' := [(u0, .inr (9, [.ref u1, .ref u2, .ref u3, .ref u4, .ref u5, .ref u6, .int (nI kn), .ref u7, .int (bB true), .ref u8, .int (nI ty), .ref u9, .int (nI ta), .int (bB iw), .ref u10, .ref u11])), (u5, .inl (tyI D, 208, .inl M)), (u7, .inl (tyI D, 208, .inl (cpF Kp M 208)))]) [1, 2, 0] rfl (by decide) ?_
        exact E 36 _ (nI (smN (sv_g s) 144)) _ dX9_keep_36 ⟨rfl, rfl⟩
      ·
        refine g_aload_n O dX9_keep_9 0 rfl rfl ?_
        refine g_get O hiX9_keep_X9 0 rfl rfl 7 (by decide) (by decide +kernel) rfl dX9_keep_10 ?_
        refine g_iload_n O dX9_keep_13 1 rfl rfl ?_
        refine g_aload_n O dX9_keep_14 0 rfl rfl ?_
        refine g_get O hiX9_keep_X9 0 rfl rfl 4 (by decide) (by decide +kernel) rfl dX9_keep_15 ?_
        refine g_iload_n O dX9_keep_18 1 rfl rfl ?_
        refine g_ialdN O 1 rfl (by omega) (by omega) dX9_keep_19 ?_
        refine g_iastN (f' := (upd F_ i_ (M i_))) (ws' := [(u0, .inr (9, [.ref u1, .ref u2, .ref u3, .ref u4, .ref u5, .ref u6, .int (nI kn), .ref u7, .int (bB ik), .ref u8, .int (nI ty), .ref u9, .int (nI ta), .int (bB iw), .ref u10, .ref u11])), (u5, .inl (tyI D, 208, .inl M)), (u7, .inl (tyI D, 208, .inl (upd F_ i_ (M i_))))]) O 2 rfl (by omega) (by omega) dX9_keep_20 rfl rfl ?_
        refine g_iincN (L' := [(0, .ref u0), (1, .int (nI (i_ + 1)))]) O dX9_keep_21 1 rfl (by decide) [1, 0] rfl ?_
        refine g_goto (tgt := 2) O dX9_keep_24 (by decide) ?_
        exact ih_ (i_ + 1) _ (by first | assumption | omega | rfl) (by rw [hF]; exact cpF_s _ _ _) (by omega)
  exact J2 _ 0 Kp (Nat.zero_le _) ((cpF_0 _ _).symm) (Nat.lt_succ_self _)

theorem hiX9_restore_X9 : ∀ w ∈ wsX90, w ∈ wsX9_restore := by intro w h; simp only [wsX9_restore, List.mem_append, List.mem_cons, h, or_true, true_or]
set_option maxHeartbeats 2000000 in
set_option maxRecDepth 100000 in
/-- restore, none -/
theorem kX9_restore_b1 (l : Launch) (D : va_G) (z : Nat × Nat × Nat) (u0 : Nat) (u1 : Nat) (u2 : Nat) (u3 : Nat) (u4 : Nat) (u5 : Nat) (u6 : Nat) (u7 : Nat) (u8 : Nat) (u9 : Nat) (u10 : Nat) (u11 : Nat) (kn : Nat) (ty : Nat) (ta : Nat) (iw : Bool)  : CM l yX9_restore wsX9_restore ({ frames := 1, cells := 0, slots := 0, locals := 22 } : Room) D z [.ref u0] [(u0, .inr (9, [.ref u1, .ref u2, .ref u3, .ref u4, .ref u5, .ref u6, .int (nI kn), .ref u7, .int (bB false), .ref u8, .int (nI ty), .ref u9, .int (nI ta), .int (bB iw), .ref u10, .ref u11]))] (fun r_ w_ => r_ = some (.int (-5)) ∧ w_ = [(u0, .inr (9, [.ref u1, .ref u2, .ref u3, .ref u4, .ref u5, .ref u6, .int (nI kn), .ref u7, .int (bB false), .ref u8, .int (nI ty), .ref u9, .int (nI ta), .int (bB iw), .ref u10, .ref u11]))]) 0 0 := by
  refine CM_int (own := RX9) (cc := cX9_restore) (maxL := 2) (L0 := [(0, .ref u0)]) (by decide) rfl rfl (Nat.le_of_ble_eq_true rfl) rfl (fun X O E => ?_)
  refine g_aload_n O dX9_restore_0 0 rfl rfl ?_
  refine g_get O hiX9_restore_X9 0 rfl rfl 8 (by decide) (by decide +kernel) rfl dX9_restore_1 ?_
  refine g_if_neB (tgt := 10) O dX9_restore_4 (by decide) (fun c_1 => absurd c_1 (by decide)) (fun c_1 => ?_)
  refine g_bipush (x := (-5)) O dX9_restore_7 (by decide +kernel) ?_
  exact E 9 _ (-5) _ dX9_restore_9 ⟨rfl, rfl⟩

set_option maxHeartbeats 2000000 in
set_option maxRecDepth 100000 in
/-- restore -/
theorem kX9_restore_ok (l : Launch) (D : va_G) (z : Nat × Nat × Nat) (u0 : Nat) (u1 : Nat) (u2 : Nat) (u3 : Nat) (u4 : Nat) (u5 : Nat) (u6 : Nat) (u7 : Nat) (u8 : Nat) (u9 : Nat) (u10 : Nat) (u11 : Nat) (kn : Nat) (ty : Nat) (ta : Nat) (iw : Bool) (M : Nat → Int32) (Bf : Nat → Int32) (Kp : Nat → Int32) (sn : SV) (hkn : kn ≤ 4) (hK : RM Kp sn) (hns : sv_nc sn ≤ 4) (hqs : sv_ps sn ≤ 16) : CM l yX9_restore wsX9_restore ({ frames := 1, cells := 0, slots := 0, locals := 22 } : Room) D z [.ref u0] [(u0, .inr (9, [.ref u1, .ref u2, .ref u3, .ref u4, .ref u5, .ref u6, .int (nI kn), .ref u7, .int (bB true), .ref u8, .int (nI ty), .ref u9, .int (nI ta), .int (bB iw), .ref u10, .ref u11])), (u5, .inl (tyI D, 208, .inl M)), (u6, .inl (tyI D, 832, .inl Bf)), (u7, .inl (tyI D, 208, .inl Kp))] (fun r_ w_ => r_ = some (.int (nI (smN (sv_g sn) 144))) ∧ w_ = [(u0, .inr (9, [.ref u1, .ref u2, .ref u3, .ref u4, .ref u5, .ref u6, .int (nI (rhN kn)), .ref u7, .int (bB true), .ref u8, .int (nI ty), .ref u9, .int (nI ta), .int (bB iw), .ref u10, .ref u11])), (u5, .inl (tyI D, 208, .inl (cpF M Kp 208))), (u6, .inl (tyI D, 832, .inl (kwF Bf M kn))), (u7, .inl (tyI D, 208, .inl Kp))]) 0 0 := by
  refine CM_int (own := RX9) (cc := cX9_restore) (maxL := 2) (L0 := [(0, .ref u0)]) (by decide) rfl rfl (Nat.le_of_ble_eq_true rfl) rfl (fun X O E => ?_)
  refine g_aload_n O dX9_restore_0 0 rfl rfl ?_
  refine g_get O hiX9_restore_X9 0 rfl rfl 8 (by decide) (by decide +kernel) rfl dX9_restore_1 ?_
  refine g_if_neB (tgt := 10) O dX9_restore_4 (by decide) (fun c_1 => ?_) (fun c_1 => absurd c_1 (by decide))
  refine g_aload_n O dX9_restore_10 0 rfl rfl ?_
  refine g_callV (As := []) (wr := [(u7, .inl (tyI D, 208, .inl Kp))]) O (kX9_know l D z u0 u1 u2 u3 u4 u5 u6 u7 u8 u9 u10 u11 kn true ty ta iw M Bf (by first | assumption | omega)) gX9_restore_X9_know rfl rfl rfl 0 (by decide +kernel) (by decide) (by decide) (q0 := 0) rfl rfl rfl [0, 1, 2] [3] rfl (by decide) rfl (by decide) (by decide) rfl rfl (Nat.le_of_ble_eq_true rfl) dX9_restore_11 (fun r_2 w_3 hp => ?_)
  obtain ⟨rfl, rfl⟩ := hp
  refine g_eq (st' := []) (ws' := [(u7, .inl (tyI D, 208, .inl Kp)), (u0, .inr (9, [.ref u1, .ref u2, .ref u3, .ref u4, .ref u5, .ref u6, .int (nI (rhN kn)), .ref u7, .int (bB true), .ref u8, .int (nI ty), .ref u9, .int (nI ta), .int (bB iw), .ref u10, .ref u11])), (u5, .inl (tyI D, 208, .inl M)), (u6, .inl (tyI D, 832, .inl (kwF Bf M kn)))]) rfl rfl rfl ?_
  refine g_iconst (x := (nI 0)) O dX9_restore_14 (by decide +kernel) ?_
  refine g_istore_n (L' := [(0, .ref u0), (1, .int (nI 0))]) O dX9_restore_15 rfl (by decide) [1, 0] rfl ?_
  have J16 : ∀ (n_ : Nat), ∀ (i_ : Nat) (F_ : Nat → Int32) (hi_ : i_ ≤ 208) (hF : F_ = cpF M Kp i_), 208 - i_ < n_ → G X 0 0 16 [(0, .ref u0), (1, .int (nI i_))] [] [(u7, .inl (tyI D, 208, .inl Kp)), (u0, .inr (9, [.ref u1, .ref u2, .ref u3, .ref u4, .ref u5, .ref u6, .int (nI (rhN kn)), .ref u7, .int (bB true), .ref u8, .int (nI ty), .ref u9, .int (nI ta), .int (bB iw), .ref u10, .ref u11])), (u5, .inl (tyI D, 208, .inl F_)), (u6, .inl (tyI D, 832, .inl (kwF Bf M kn)))] := by
    intro n_
    induction n_ with
    | zero => intro i_ F_ hi_ hF hm_; exact absurd hm_ (Nat.not_lt_zero _)
    | succ n_ ih_ =>
      intro i_ F_ hi_ hF hm_
      refine g_iload_n O dX9_restore_16 1 rfl rfl ?_
      refine g_sipush (x := (nI 208)) O dX9_restore_17 (by decide +kernel) ?_
      refine g_icmp_geN (tgt := 41) O (by omega) (by omega) dX9_restore_20 (by decide) (fun c_4 => ?_) (fun c_4 => ?_)
      ·
        obtain rfl : i_ = 208 := by omega
        subst hF
        refine g_aload_n O dX9_restore_41 0 rfl rfl ?_
        refine g_callV (As := []) (wr := [(u7, .inl (tyI D, 208, .inl Kp)), (u6, .inl (tyI D, 832, .inl (kwF Bf M kn)))]) O (kX9_allGrains l D z u0 u1 u2 u3 u4 u5 u6 u7 u8 u9 u10 u11 (rhN kn) true ty ta iw (cpF M Kp 208) sn (RM_eq hK hns hqs (fun j hj => by simp only [cpF]; rw [if_pos hj]))) gX9_restore_X9_allGrains rfl rfl rfl 0 (by decide +kernel) (by decide) (by decide) (q0 := 0) rfl rfl rfl [1, 2] [0, 3] rfl (by decide) rfl (by decide) (by decide) rfl rfl (Nat.le_of_ble_eq_true rfl) dX9_restore_42 (fun r_5 w_6 hp => ?_)
        obtain ⟨rfl, rfl⟩ := hp
        refine g_eq (st' := [.int (nI (smN (sv_g sn) 144))]) (ws' := [(u7, .inl (tyI D, 208, .inl Kp)), (u6, .inl (tyI D, 832, .inl (kwF Bf M kn))), (u0, .inr (9, [.ref u1, .ref u2, .ref u3, .ref u4, .ref u5, .ref u6, .int (nI (rhN kn)), .ref u7, .int (bB true), .ref u8, .int (nI ty), .ref u9, .int (nI ta), .int (bB iw), .ref u10, .ref u11])), (u5, .inl (tyI D, 208, .inl (cpF M Kp 208)))]) rfl rfl rfl ?_
        refine g_perm (ws' := [(u0, .inr (9, [.ref u1, .ref u2, .ref u3, .ref u4, .ref u5, .ref u6, .int (nI (rhN kn)), .ref u7, .int (bB true), .ref u8, .int (nI ty), .ref u9, .int (nI ta), .int (bB iw), .ref u10, .ref u11])), (u5, .inl (tyI D, 208, .inl (cpF M Kp 208))), (u6, .inl (tyI D, 832, .inl (kwF Bf M kn))), (u7, .inl (tyI D, 208, .inl Kp))]) [2, 3, 1, 0] rfl (by decide) ?_
        exact E 45 _ (nI (smN (sv_g sn) 144)) _ dX9_restore_45 ⟨rfl, rfl⟩
      ·
        refine g_aload_n O dX9_restore_23 0 rfl rfl ?_
        refine g_get O hiX9_restore_X9 1 rfl rfl 4 (by decide) (by decide +kernel) rfl dX9_restore_24 ?_
        refine g_iload_n O dX9_restore_27 1 rfl rfl ?_
        refine g_aload_n O dX9_restore_28 0 rfl rfl ?_
        refine g_get O hiX9_restore_X9 1 rfl rfl 7 (by decide) (by decide +kernel) rfl dX9_restore_29 ?_
        refine g_iload_n O dX9_restore_32 1 rfl rfl ?_
        refine g_ialdN O 0 rfl (by omega) (by omega) dX9_restore_33 ?_
        refine g_iastN (f' := (upd F_ i_ (Kp i_))) (ws' := [(u7, .inl (tyI D, 208, .inl Kp)), (u0, .inr (9, [.ref u1, .ref u2, .ref u3, .ref u4, .ref u5, .ref u6, .int (nI (rhN kn)), .ref u7, .int (bB true), .ref u8, .int (nI ty), .ref u9, .int (nI ta), .int (bB iw), .ref u10, .ref u11])), (u5, .inl (tyI D, 208, .inl (upd F_ i_ (Kp i_)))), (u6, .inl (tyI D, 832, .inl (kwF Bf M kn)))]) O 2 rfl (by omega) (by omega) dX9_restore_34 rfl rfl ?_
        refine g_iincN (L' := [(0, .ref u0), (1, .int (nI (i_ + 1)))]) O dX9_restore_35 1 rfl (by decide) [1, 0] rfl ?_
        refine g_goto (tgt := 16) O dX9_restore_38 (by decide) ?_
        exact ih_ (i_ + 1) _ (by first | assumption | omega | rfl) (by rw [hF]; exact cpF_s _ _ _) (by omega)
  exact J16 _ 0 M (Nat.zero_le _) ((cpF_0 _ _).symm) (Nat.lt_succ_self _)
