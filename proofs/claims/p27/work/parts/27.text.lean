theorem hiX6_init_X4 : ∀ w ∈ wsX40, w ∈ wsX6_init := by decide +kernel
theorem hiX6_init_X6 : ∀ w ∈ wsX60, w ∈ wsX6_init := by decide +kernel
set_option maxHeartbeats 2000000 in
set_option maxRecDepth 100000 in
/-- a new text -/
theorem kX6_init (l : Launch) (D : va_G) (z : Nat × Nat × Nat) (t0 : Nat)  : CM l yX6_init wsX6_init ({ frames := 2, cells := 5, slots := 245, locals := 42 } : Room) D z [.ref t0] [(t0, .inr (6, [.null, .int (nI 0), .null, .int (nI 0)]))] (fun r_ w_ => ∃ (q0 : Nat), ∃ (q1 : Nat), ∃ (q2 : Nat), ∃ (q3 : Nat), ∃ (q4 : Nat), r_ = none ∧ w_ = [(t0, .inr (6, [.ref q0, .int (nI 0), .ref q1, .int (nI 0)])), (q0, .inl (tyC D, 60, .inl (nf (fun _ => 0)))), (q1, .inr (4, [.int (nI 60), .ref q2, .ref q3, .ref q4, .int (nI 0)])), (q2, .inl (tyI D, 60, .inl (nf (fun _ => 0)))), (q3, .inl (tyI D, 60, .inl (nf (fun _ => 0)))), (q4, .inl (tyI D, 60, .inl (nf (fun _ => 0))))]) 5 245 := by
  refine CM_void (own := RX6) (cc := cX6_init) (maxL := 1) (L0 := [(0, .ref t0)]) (by decide) rfl rfl (Nat.le_of_ble_eq_true rfl) rfl (fun X O E => ?_)
  refine g_aload_n O dX6_init_0 0 rfl rfl ?_
  refine g_objInit O (by decide +kernel) (by decide +kernel) (by decide +kernel) (by decide) (Nat.le_of_ble_eq_true rfl) dX6_init_1 ?_
  refine g_aload_n O dX6_init_4 0 rfl rfl ?_
  refine g_bipush (x := (nI 60)) O dX6_init_5 (by decide +kernel) ?_
  refine g_newC (N := 60) O (by decide +kernel) (nI_pos (by decide)) (nI_clamp (by decide)) (by decide) (by decide) (by decide) dX6_init_7 (fun q_1 => ?_)
  refine g_eq (ws' := [(t0, .inr (6, [.null, .int (nI 0), .null, .int (nI 0)])), (q_1, .inl (tyC D, 60, .inl (fun _ => 0)))]) rfl rfl (by rfl) ?_
  refine g_putF (ws' := [(t0, .inr (6, [.ref q_1, .int (nI 0), .null, .int (nI 0)])), (q_1, .inl (tyC D, 60, .inl (fun _ => 0)))]) O hiX6_init_X6 tyX6 tyX6_ok nmX6 0 rfl rfl 0 (by decide) (by decide +kernel) rfl rfl rfl (tyX6_ok 0 (by decide)) rfl rfl (Nat.le_of_ble_eq_true rfl) dX6_init_9 rfl ?_
  refine g_aload_n O dX6_init_12 0 rfl rfl ?_
  refine g_iconst (x := (nI 0)) O dX6_init_13 (by decide +kernel) ?_
  refine g_put (ws' := [(t0, .inr (6, [.ref q_1, .int (nI 0), .null, .int (nI 0)])), (q_1, .inl (tyC D, 60, .inl (fun _ => 0)))]) O hiX6_init_X6 tyX6 tyX6_ok nmX6 0 rfl rfl 1 (by decide) (by decide +kernel) rfl (tyX6_ok 1 (by decide)) rfl rfl (Nat.le_of_ble_eq_true rfl) dX6_init_14 rfl ?_
  refine g_aload_n O dX6_init_17 0 rfl rfl ?_
  refine g_new (ci := 4) (fs := [.int 0, .null, .null, .null, .int 0]) O hiX6_init_X4 tyX4 tyX4_ok (by decide +kernel) (by decide +kernel) (by decide +kernel) rfl (fun j hj => by rcases (show j = 0 ∨ j = 1 ∨ j = 2 ∨ j = 3 ∨ j = 4 by omega) with rfl | rfl | rfl | rfl | rfl <;> rfl) (by decide) (by decide) dX6_init_18 (fun q_2 => ?_)
  refine g_eq (ws' := [(t0, .inr (6, [.ref q_1, .int (nI 0), .null, .int (nI 0)])), (q_1, .inl (tyC D, 60, .inl (fun _ => 0))), (q_2, .inr (4, [.int (nI 0), .null, .null, .null, .int (nI 0)]))]) rfl rfl rfl ?_
  refine g_dup O dX6_init_21 rfl ?_
  refine g_bipush (x := (nI 60)) O dX6_init_22 (by decide +kernel) ?_
  refine g_callI (As := [.int (nI 60)]) (wr := [(t0, .inr (6, [.ref q_1, .int (nI 0), .null, .int (nI 0)])), (q_1, .inl (tyC D, 60, .inl (fun _ => 0)))]) O (kX4_init60 l D z q_2 ) gX6_init_X4_init rfl rfl rfl 1 (by decide +kernel) (by decide) (by decide) (by decide +kernel) (by decide +kernel) (by decide +kernel) rfl [2] [0, 1] rfl (by decide) rfl (by decide) (by decide) rfl rfl (Nat.le_of_ble_eq_true rfl) dX6_init_24 (fun r_3 w_4 hp => ?_)
  obtain ⟨q0_5, q1_6, q2_7, rfl, rfl⟩ := hp
  refine g_eq (st' := [.ref q_2, .ref t0]) (ws' := [(t0, .inr (6, [.ref q_1, .int (nI 0), .null, .int (nI 0)])), (q_1, .inl (tyC D, 60, .inl (fun _ => 0))), (q_2, .inr (4, [.int (nI 60), .ref q0_5, .ref q1_6, .ref q2_7, .int (nI 0)])), (q0_5, .inl (tyI D, 60, .inl (nf (fun _ => 0)))), (q1_6, .inl (tyI D, 60, .inl (nf (fun _ => 0)))), (q2_7, .inl (tyI D, 60, .inl (nf (fun _ => 0))))]) rfl rfl rfl ?_
  refine g_putF (ws' := [(t0, .inr (6, [.ref q_1, .int (nI 0), .ref q_2, .int (nI 0)])), (q_1, .inl (tyC D, 60, .inl (fun _ => 0))), (q_2, .inr (4, [.int (nI 60), .ref q0_5, .ref q1_6, .ref q2_7, .int (nI 0)])), (q0_5, .inl (tyI D, 60, .inl (nf (fun _ => 0)))), (q1_6, .inl (tyI D, 60, .inl (nf (fun _ => 0)))), (q2_7, .inl (tyI D, 60, .inl (nf (fun _ => 0))))]) O hiX6_init_X6 tyX6 tyX6_ok nmX6 0 rfl rfl 2 (by decide) (by decide +kernel) rfl rfl rfl (tyX6_ok 2 (by decide)) rfl rfl (Nat.le_of_ble_eq_true rfl) dX6_init_27 rfl ?_
  refine g_aload_n O dX6_init_30 0 rfl rfl ?_
  refine g_iconst (x := (nI 0)) O dX6_init_31 (by decide +kernel) ?_
  refine g_put (ws' := [(t0, .inr (6, [.ref q_1, .int (nI 0), .ref q_2, .int (nI 0)])), (q_1, .inl (tyC D, 60, .inl (fun _ => 0))), (q_2, .inr (4, [.int (nI 60), .ref q0_5, .ref q1_6, .ref q2_7, .int (nI 0)])), (q0_5, .inl (tyI D, 60, .inl (nf (fun _ => 0)))), (q1_6, .inl (tyI D, 60, .inl (nf (fun _ => 0)))), (q2_7, .inl (tyI D, 60, .inl (nf (fun _ => 0))))]) O hiX6_init_X6 tyX6 tyX6_ok nmX6 0 rfl rfl 3 (by decide) (by decide +kernel) rfl (tyX6_ok 3 (by decide)) rfl rfl (Nat.le_of_ble_eq_true rfl) dX6_init_32 rfl ?_
  exact E 35 _ _ dX6_init_35 (⟨_, _, _, _, _, rfl, rfl⟩)
