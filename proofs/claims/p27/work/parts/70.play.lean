/-! isPlaySo -/
set_option maxHeartbeats 4000000 in
set_option maxRecDepth 100000 in
theorem kL_isPlaySo (l : Launch) (D : va_G) (z : Nat × Nat × Nat) (a : Nat → Nat) (P : PS) (J : JS) {Bd : Nat} (hI : IW Bd P) (hB : Bd < 1073741824) : CM l yL_isPlaySo wsL_isPlaySo ({ frames := 7, cells := 0, slots := 0, locals := 164 } : Room) D z [.ref (a 0)] (wX D a P J) (fun r w => ∃ (P' : PS) (J' : JS), IW Bd P' ∧ r = some (.int (bB true)) ∧ w = wX D a P' J') 0 0 := by
  refine CM_bool (own := RL) (cc := cL_isPlaySo) (maxL := 14) (L0 := [(0, .ref (a 0))]) (by decide) rfl rfl (Nat.le_of_ble_eq_true rfl) rfl (fun X O E => ?_)
  have hok := hI.1.1
  have h16 := hok.2.2.1
  have hsm := hok.2.2.2.2.2
  have hP1 : IW Bd (plP P) := IW_play hI 1
  have hP2 : IW Bd (unP (plP P)) := IW_undo hP1 (plP_hd P)
  have hsm1 := hP1.1.1.2.2.2.2.2
  have hd4 := plP_hd4 hI.1.2.2.1
  have hfk : 0 < sv_ps (p_s P) → sv_fk (p_s P) 0 ≤ 20 := fun h => (hok.2.2.2.1 0 h).2.2.2
  have hfa : 1 < sv_ps (p_s P) → sv_fa (p_s P) 1 < 12 := fun h => (hok.2.2.2.1 1 h).2.1
  by_cases hz : sv_ps (p_s P) = 0
  ·
    refine g_aload_n O dL_isPlaySo_0 0 rfl rfl ?_
    refine g_iconst (x := (nI 0)) O dL_isPlaySo_1 (by decide +kernel) ?_
    refine g_iconst (x := (nI 3)) O dL_isPlaySo_2 (by decide +kernel) ?_
    refine g_callW (As := [.int (nI 0), .int (nI 3)]) (Aw := wX D a P J) O (X_waiting_b2 l D z a P 0 3 J hI.1 hB (by first | omega | assumption) (by first | omega | assumption) (by omega)) gL_isPlaySo_X8_waiting rfl rfl rfl 2 (by decide +kernel) (by decide) (by decide) rfl rfl rfl rfl rfl (Nat.le_of_ble_eq_true rfl) dL_isPlaySo_3 (fun r9 w9 hp => ?_)
    obtain ⟨rfl, J_1, rfl⟩ := hp
    refine g_eq (st' := [.int (-5)]) (ws' := wX D a P J_1) rfl rfl rfl ?_
    refine g_istore_n (L' := [(0, .ref (a 0)), (1, .int (-5))]) O dL_isPlaySo_6 rfl (by decide) [1, 0] rfl ?_
    refine g_aload_n O dL_isPlaySo_7 0 rfl rfl ?_
    refine g_iconst (x := (nI 0)) O dL_isPlaySo_8 (by decide +kernel) ?_
    refine g_iconst (x := (nI 2)) O dL_isPlaySo_9 (by decide +kernel) ?_
    refine g_callW (As := [.int (nI 0), .int (nI 2)]) (Aw := wX D a P J_1) O (X_waiting_b2 l D z a P 0 2 J_1 hI.1 hB (by first | omega | assumption) (by first | omega | assumption) (by omega)) gL_isPlaySo_X8_waiting rfl rfl rfl 2 (by decide +kernel) (by decide) (by decide) rfl rfl rfl rfl rfl (Nat.le_of_ble_eq_true rfl) dL_isPlaySo_10 (fun r9 w9 hp => ?_)
    obtain ⟨rfl, J_2, rfl⟩ := hp
    refine g_eq (st' := [.int (-5)]) (ws' := wX D a P J_2) rfl rfl rfl ?_
    refine g_istore_n (L' := [(0, .ref (a 0)), (1, .int (-5)), (2, .int (-5))]) O dL_isPlaySo_13 rfl (by decide) [1, 2, 0] rfl ?_
    refine g_aload_n O dL_isPlaySo_14 0 rfl rfl ?_
    refine g_iconst (x := (nI 0)) O dL_isPlaySo_15 (by decide +kernel) ?_
    refine g_callW (As := [.int (nI 0)]) (Aw := wX D a P J_2) O (X_count_0 l D z a P J_2 hI.1 hB ) gL_isPlaySo_X8_count rfl rfl rfl 1 (by decide +kernel) (by decide) (by decide) rfl rfl rfl rfl rfl (Nat.le_of_ble_eq_true rfl) dL_isPlaySo_16 (fun r9 w9 hp => ?_)
    obtain ⟨rfl, J_3, rfl⟩ := hp
    refine g_eq (st' := [.int (nI (smN (sv_g (p_s P)) 144))]) (ws' := wX D a P J_3) rfl rfl rfl ?_
    refine g_istore_n (L' := [(0, .ref (a 0)), (1, .int (-5)), (2, .int (-5)), (3, .int (nI (smN (sv_g (p_s P)) 144)))]) O dL_isPlaySo_19 rfl (by decide) [1, 2, 3, 0] rfl ?_
    refine g_aload_n O dL_isPlaySo_20 0 rfl rfl ?_
    refine g_iconst (x := (nI 3)) O dL_isPlaySo_21 (by decide +kernel) ?_
    refine g_callW (As := [.int (nI 3)]) (Aw := wX D a P J_3) O (X_count_3 l D z a P J_3 hI.1 hB ) gL_isPlaySo_X8_count rfl rfl rfl 1 (by decide +kernel) (by decide) (by decide) rfl rfl rfl rfl rfl (Nat.le_of_ble_eq_true rfl) dL_isPlaySo_22 (fun r9 w9 hp => ?_)
    obtain ⟨rfl, J_4, rfl⟩ := hp
    refine g_eq (st' := [.int (sv_fl (p_s P))]) (ws' := wX D a P J_4) rfl rfl rfl ?_
    refine g_istore (L' := [(0, .ref (a 0)), (1, .int (-5)), (2, .int (-5)), (3, .int (nI (smN (sv_g (p_s P)) 144))), (4, .int (sv_fl (p_s P)))]) O dL_isPlaySo_25 (by decide) [1, 2, 3, 4, 0] rfl ?_
    refine g_aload_n O dL_isPlaySo_27 0 rfl rfl ?_
    refine g_bipush (x := (nI 7)) O dL_isPlaySo_28 (by decide +kernel) ?_
    refine g_callW (As := [.int (nI 7)]) (Aw := wX D a P J_4) O (X_count_7 l D z a P J_4 hI.1 hB ) gL_isPlaySo_X8_count rfl rfl rfl 1 (by decide +kernel) (by decide) (by decide) rfl rfl rfl rfl rfl (Nat.le_of_ble_eq_true rfl) dL_isPlaySo_30 (fun r9 w9 hp => ?_)
    obtain ⟨rfl, J_5, rfl⟩ := hp
    refine g_eq (st' := [.int (sv_mu (p_s P))]) (ws' := wX D a P J_5) rfl rfl rfl ?_
    refine g_istore (L' := [(0, .ref (a 0)), (1, .int (-5)), (2, .int (-5)), (3, .int (nI (smN (sv_g (p_s P)) 144))), (4, .int (sv_fl (p_s P))), (5, .int (sv_mu (p_s P)))]) O dL_isPlaySo_33 (by decide) [1, 2, 3, 4, 5, 0] rfl ?_
    refine g_aload_n O dL_isPlaySo_35 0 rfl rfl ?_
    refine g_iconst (x := (nI 5)) O dL_isPlaySo_36 (by decide +kernel) ?_
    refine g_callW (As := [.int (nI 5)]) (Aw := wX D a P J_5) O (X_count_5 l D z a P J_5 hI.1 hB ) gL_isPlaySo_X8_count rfl rfl rfl 1 (by decide +kernel) (by decide) (by decide) rfl rfl rfl rfl rfl (Nat.le_of_ble_eq_true rfl) dL_isPlaySo_37 (fun r9 w9 hp => ?_)
    obtain ⟨rfl, J_6, rfl⟩ := hp
    refine g_eq (st' := [.int (nI (sv_ps (p_s P)))]) (ws' := wX D a P J_6) rfl rfl rfl ?_
    refine g_eq (st' := [.int (nI 0)]) (by rw [hz]) rfl rfl ?_
    refine g_istore (L' := [(0, .ref (a 0)), (1, .int (-5)), (2, .int (-5)), (3, .int (nI (smN (sv_g (p_s P)) 144))), (4, .int (sv_fl (p_s P))), (5, .int (sv_mu (p_s P))), (6, .int (nI 0))]) O dL_isPlaySo_40 (by decide) [1, 2, 3, 4, 5, 6, 0] rfl ?_
    refine g_aload_n O dL_isPlaySo_42 0 rfl rfl ?_
    refine g_bipush (x := (nI 8)) O dL_isPlaySo_43 (by decide +kernel) ?_
    refine g_callW (As := [.int (nI 8)]) (Aw := wX D a P J_6) O (X_count_8 l D z a P J_6 hI.1 hB ) gL_isPlaySo_X8_count rfl rfl rfl 1 (by decide +kernel) (by decide) (by decide) rfl rfl rfl rfl rfl (Nat.le_of_ble_eq_true rfl) dL_isPlaySo_45 (fun r9 w9 hp => ?_)
    obtain ⟨rfl, J_7, rfl⟩ := hp
    refine g_eq (st' := [.int (laM (sv_la (p_s P)))]) (ws' := wX D a P J_7) rfl rfl rfl ?_
    refine g_istore (L' := [(0, .ref (a 0)), (1, .int (-5)), (2, .int (-5)), (3, .int (nI (smN (sv_g (p_s P)) 144))), (4, .int (sv_fl (p_s P))), (5, .int (sv_mu (p_s P))), (6, .int (nI 0)), (7, .int (laM (sv_la (p_s P))))]) O dL_isPlaySo_48 (by decide) [1, 2, 3, 4, 5, 6, 7, 0] rfl ?_
    refine g_aload_n O dL_isPlaySo_50 0 rfl rfl ?_
    refine g_bipush (x := (nI 6)) O dL_isPlaySo_51 (by decide +kernel) ?_
    refine g_callW (As := [.int (nI 6)]) (Aw := wX D a P J_7) O (X_count_6 l D z a P J_7 hI.1 hB ) gL_isPlaySo_X8_count rfl rfl rfl 1 (by decide +kernel) (by decide) (by decide) rfl rfl rfl rfl rfl (Nat.le_of_ble_eq_true rfl) dL_isPlaySo_53 (fun r9 w9 hp => ?_)
    obtain ⟨rfl, J_8, rfl⟩ := hp
    refine g_eq (st' := [.int (sv_sk (p_s P))]) (ws' := wX D a P J_8) rfl rfl rfl ?_
    refine g_istore (L' := [(0, .ref (a 0)), (1, .int (-5)), (2, .int (-5)), (3, .int (nI (smN (sv_g (p_s P)) 144))), (4, .int (sv_fl (p_s P))), (5, .int (sv_mu (p_s P))), (6, .int (nI 0)), (7, .int (laM (sv_la (p_s P)))), (8, .int (sv_sk (p_s P)))]) O dL_isPlaySo_56 (by decide) [1, 2, 3, 4, 5, 6, 7, 8, 0] rfl ?_
    refine g_iload O dL_isPlaySo_58 6 rfl ?_
    refine g_if_neN (tgt := 85) O (by omega) dL_isPlaySo_60 (by decide) (fun c_9 => absurd c_9 (by decide)) (fun c_9 => ?_)
    refine g_aload_n O dL_isPlaySo_63 0 rfl rfl ?_
    refine g_iconst (x := (nI 3)) O dL_isPlaySo_64 (by decide +kernel) ?_
    refine g_callW (As := [.int (nI 3)]) (Aw := wX D a P J_8) O (X_play_b2 l D z a P 3 J_8 hI.1 hB (by first | omega | assumption) (by first | omega | assumption) (by first | omega | assumption)) gL_isPlaySo_X8_play rfl rfl rfl 1 (by decide +kernel) (by decide) (by decide) rfl rfl rfl rfl rfl (Nat.le_of_ble_eq_true rfl) dL_isPlaySo_65 (fun r9 w9 hp => ?_)
    obtain ⟨rfl, J_10, rfl⟩ := hp
    refine g_eq (st' := [.int (-5)]) (ws' := wX D a P J_10) rfl rfl rfl ?_
    refine g_bipush (x := (-5)) O dL_isPlaySo_68 (by decide +kernel) ?_
    refine g_icmp_ne (tgt := 83) O dL_isPlaySo_70 (by decide) (fun c_11 => (by exact absurd rfl c_11)) (fun c_11 => ?_)
    refine g_iload_n O dL_isPlaySo_73 1 rfl rfl ?_
    refine g_bipush (x := (-5)) O dL_isPlaySo_74 (by decide +kernel) ?_
    refine g_icmp_ne (tgt := 83) O dL_isPlaySo_76 (by decide) (fun c_12 => (by exact absurd rfl c_12)) (fun c_12 => ?_)
    refine g_iconst (x := (nI 1)) O dL_isPlaySo_79 (by decide +kernel) ?_
    refine g_goto (tgt := 84) O dL_isPlaySo_80 (by decide) ?_
    refine g_eq (st' := [.int (bB true)]) rfl rfl rfl ?_
    exact E 84 _ true _ dL_isPlaySo_84 ⟨P, _, hI, rfl, rfl⟩
  · cases hwy : wyO (p_s P) (bpN (sv_fs (p_s P) 0) (sv_fa (p_s P) 0)) with
    | none =>
      refine g_aload_n O dL_isPlaySo_0 0 rfl rfl ?_
      refine g_iconst (x := (nI 0)) O dL_isPlaySo_1 (by decide +kernel) ?_
      refine g_iconst (x := (nI 3)) O dL_isPlaySo_2 (by decide +kernel) ?_
      refine g_callW (As := [.int (nI 0), .int (nI 3)]) (Aw := wX D a P J) O (X_waiting_3 l D z a P 0 J hI.1 hB (by first | omega | assumption)) gL_isPlaySo_X8_waiting rfl rfl rfl 2 (by decide +kernel) (by decide) (by decide) rfl rfl rfl rfl rfl (Nat.le_of_ble_eq_true rfl) dL_isPlaySo_3 (fun r9 w9 hp => ?_)
      obtain ⟨rfl, J_13, rfl⟩ := hp
      refine g_eq (st' := [.int (laM (orM (wyO (p_s P) (bpN (sv_fs (p_s P) 0) (sv_fa (p_s P) 0)))))]) (ws' := wX D a P J_13) rfl rfl rfl ?_
      refine g_eq (st' := [.int (-5)]) (by rw [hwy, laM_none]) rfl rfl ?_
      refine g_istore_n (L' := [(0, .ref (a 0)), (1, .int (-5))]) O dL_isPlaySo_6 rfl (by decide) [1, 0] rfl ?_
      refine g_aload_n O dL_isPlaySo_7 0 rfl rfl ?_
      refine g_iconst (x := (nI 0)) O dL_isPlaySo_8 (by decide +kernel) ?_
      refine g_iconst (x := (nI 2)) O dL_isPlaySo_9 (by decide +kernel) ?_
      refine g_callW (As := [.int (nI 0), .int (nI 2)]) (Aw := wX D a P J_13) O (X_waiting_2 l D z a P 0 J_13 hI.1 hB (by first | omega | assumption)) gL_isPlaySo_X8_waiting rfl rfl rfl 2 (by decide +kernel) (by decide) (by decide) rfl rfl rfl rfl rfl (Nat.le_of_ble_eq_true rfl) dL_isPlaySo_10 (fun r9 w9 hp => ?_)
      obtain ⟨rfl, J_14, rfl⟩ := hp
      refine g_eq (st' := [.int (nI (sv_fk (p_s P) 0))]) (ws' := wX D a P J_14) rfl rfl rfl ?_
      refine g_istore_n (L' := [(0, .ref (a 0)), (1, .int (-5)), (2, .int (nI (sv_fk (p_s P) 0)))]) O dL_isPlaySo_13 rfl (by decide) [1, 2, 0] rfl ?_
      refine g_aload_n O dL_isPlaySo_14 0 rfl rfl ?_
      refine g_iconst (x := (nI 0)) O dL_isPlaySo_15 (by decide +kernel) ?_
      refine g_callW (As := [.int (nI 0)]) (Aw := wX D a P J_14) O (X_count_0 l D z a P J_14 hI.1 hB ) gL_isPlaySo_X8_count rfl rfl rfl 1 (by decide +kernel) (by decide) (by decide) rfl rfl rfl rfl rfl (Nat.le_of_ble_eq_true rfl) dL_isPlaySo_16 (fun r9 w9 hp => ?_)
      obtain ⟨rfl, J_15, rfl⟩ := hp
      refine g_eq (st' := [.int (nI (smN (sv_g (p_s P)) 144))]) (ws' := wX D a P J_15) rfl rfl rfl ?_
      refine g_istore_n (L' := [(0, .ref (a 0)), (1, .int (-5)), (2, .int (nI (sv_fk (p_s P) 0))), (3, .int (nI (smN (sv_g (p_s P)) 144)))]) O dL_isPlaySo_19 rfl (by decide) [1, 2, 3, 0] rfl ?_
      refine g_aload_n O dL_isPlaySo_20 0 rfl rfl ?_
      refine g_iconst (x := (nI 3)) O dL_isPlaySo_21 (by decide +kernel) ?_
      refine g_callW (As := [.int (nI 3)]) (Aw := wX D a P J_15) O (X_count_3 l D z a P J_15 hI.1 hB ) gL_isPlaySo_X8_count rfl rfl rfl 1 (by decide +kernel) (by decide) (by decide) rfl rfl rfl rfl rfl (Nat.le_of_ble_eq_true rfl) dL_isPlaySo_22 (fun r9 w9 hp => ?_)
      obtain ⟨rfl, J_16, rfl⟩ := hp
      refine g_eq (st' := [.int (sv_fl (p_s P))]) (ws' := wX D a P J_16) rfl rfl rfl ?_
      refine g_istore (L' := [(0, .ref (a 0)), (1, .int (-5)), (2, .int (nI (sv_fk (p_s P) 0))), (3, .int (nI (smN (sv_g (p_s P)) 144))), (4, .int (sv_fl (p_s P)))]) O dL_isPlaySo_25 (by decide) [1, 2, 3, 4, 0] rfl ?_
      refine g_aload_n O dL_isPlaySo_27 0 rfl rfl ?_
      refine g_bipush (x := (nI 7)) O dL_isPlaySo_28 (by decide +kernel) ?_
      refine g_callW (As := [.int (nI 7)]) (Aw := wX D a P J_16) O (X_count_7 l D z a P J_16 hI.1 hB ) gL_isPlaySo_X8_count rfl rfl rfl 1 (by decide +kernel) (by decide) (by decide) rfl rfl rfl rfl rfl (Nat.le_of_ble_eq_true rfl) dL_isPlaySo_30 (fun r9 w9 hp => ?_)
      obtain ⟨rfl, J_17, rfl⟩ := hp
      refine g_eq (st' := [.int (sv_mu (p_s P))]) (ws' := wX D a P J_17) rfl rfl rfl ?_
      refine g_istore (L' := [(0, .ref (a 0)), (1, .int (-5)), (2, .int (nI (sv_fk (p_s P) 0))), (3, .int (nI (smN (sv_g (p_s P)) 144))), (4, .int (sv_fl (p_s P))), (5, .int (sv_mu (p_s P)))]) O dL_isPlaySo_33 (by decide) [1, 2, 3, 4, 5, 0] rfl ?_
      refine g_aload_n O dL_isPlaySo_35 0 rfl rfl ?_
      refine g_iconst (x := (nI 5)) O dL_isPlaySo_36 (by decide +kernel) ?_
      refine g_callW (As := [.int (nI 5)]) (Aw := wX D a P J_17) O (X_count_5 l D z a P J_17 hI.1 hB ) gL_isPlaySo_X8_count rfl rfl rfl 1 (by decide +kernel) (by decide) (by decide) rfl rfl rfl rfl rfl (Nat.le_of_ble_eq_true rfl) dL_isPlaySo_37 (fun r9 w9 hp => ?_)
      obtain ⟨rfl, J_18, rfl⟩ := hp
      refine g_eq (st' := [.int (nI (sv_ps (p_s P)))]) (ws' := wX D a P J_18) rfl rfl rfl ?_
      refine g_istore (L' := [(0, .ref (a 0)), (1, .int (-5)), (2, .int (nI (sv_fk (p_s P) 0))), (3, .int (nI (smN (sv_g (p_s P)) 144))), (4, .int (sv_fl (p_s P))), (5, .int (sv_mu (p_s P))), (6, .int (nI (sv_ps (p_s P))))]) O dL_isPlaySo_40 (by decide) [1, 2, 3, 4, 5, 6, 0] rfl ?_
      refine g_aload_n O dL_isPlaySo_42 0 rfl rfl ?_
      refine g_bipush (x := (nI 8)) O dL_isPlaySo_43 (by decide +kernel) ?_
      refine g_callW (As := [.int (nI 8)]) (Aw := wX D a P J_18) O (X_count_8 l D z a P J_18 hI.1 hB ) gL_isPlaySo_X8_count rfl rfl rfl 1 (by decide +kernel) (by decide) (by decide) rfl rfl rfl rfl rfl (Nat.le_of_ble_eq_true rfl) dL_isPlaySo_45 (fun r9 w9 hp => ?_)
      obtain ⟨rfl, J_19, rfl⟩ := hp
      refine g_eq (st' := [.int (laM (sv_la (p_s P)))]) (ws' := wX D a P J_19) rfl rfl rfl ?_
      refine g_istore (L' := [(0, .ref (a 0)), (1, .int (-5)), (2, .int (nI (sv_fk (p_s P) 0))), (3, .int (nI (smN (sv_g (p_s P)) 144))), (4, .int (sv_fl (p_s P))), (5, .int (sv_mu (p_s P))), (6, .int (nI (sv_ps (p_s P)))), (7, .int (laM (sv_la (p_s P))))]) O dL_isPlaySo_48 (by decide) [1, 2, 3, 4, 5, 6, 7, 0] rfl ?_
      refine g_aload_n O dL_isPlaySo_50 0 rfl rfl ?_
      refine g_bipush (x := (nI 6)) O dL_isPlaySo_51 (by decide +kernel) ?_
      refine g_callW (As := [.int (nI 6)]) (Aw := wX D a P J_19) O (X_count_6 l D z a P J_19 hI.1 hB ) gL_isPlaySo_X8_count rfl rfl rfl 1 (by decide +kernel) (by decide) (by decide) rfl rfl rfl rfl rfl (Nat.le_of_ble_eq_true rfl) dL_isPlaySo_53 (fun r9 w9 hp => ?_)
      obtain ⟨rfl, J_20, rfl⟩ := hp
      refine g_eq (st' := [.int (sv_sk (p_s P))]) (ws' := wX D a P J_20) rfl rfl rfl ?_
      refine g_istore (L' := [(0, .ref (a 0)), (1, .int (-5)), (2, .int (nI (sv_fk (p_s P) 0))), (3, .int (nI (smN (sv_g (p_s P)) 144))), (4, .int (sv_fl (p_s P))), (5, .int (sv_mu (p_s P))), (6, .int (nI (sv_ps (p_s P)))), (7, .int (laM (sv_la (p_s P)))), (8, .int (sv_sk (p_s P)))]) O dL_isPlaySo_56 (by decide) [1, 2, 3, 4, 5, 6, 7, 8, 0] rfl ?_
      refine g_iload O dL_isPlaySo_58 6 rfl ?_
      refine g_if_neN (tgt := 85) O (by omega) dL_isPlaySo_60 (by decide) (fun c_21 => ?_) (fun c_21 => (by omega))
      refine g_iload_n O dL_isPlaySo_85 1 rfl rfl ?_
      refine g_if_ge (tgt := 93) O dL_isPlaySo_86 (by decide) (fun c_22 => (by exact absurd c_22 (by decide +kernel))) (fun c_22 => ?_)
      refine g_iconst (x := (nI 0)) O dL_isPlaySo_89 (by decide +kernel) ?_
      refine g_goto (tgt := 100) O dL_isPlaySo_90 (by decide) ?_
      refine g_istore (L' := [(0, .ref (a 0)), (1, .int (-5)), (2, .int (nI (sv_fk (p_s P) 0))), (3, .int (nI (smN (sv_g (p_s P)) 144))), (4, .int (sv_fl (p_s P))), (5, .int (sv_mu (p_s P))), (6, .int (nI (sv_ps (p_s P)))), (7, .int (laM (sv_la (p_s P)))), (8, .int (sv_sk (p_s P))), (9, .int (nI 0))]) O dL_isPlaySo_100 (by decide) [1, 2, 3, 4, 5, 6, 7, 8, 9, 0] rfl ?_
      by_cases htwo : 1 < sv_ps (p_s P)
      ·
        refine g_aload_n O dL_isPlaySo_102 0 rfl rfl ?_
        refine g_iconst (x := (nI 1)) O dL_isPlaySo_103 (by decide +kernel) ?_
        refine g_iconst (x := (nI 1)) O dL_isPlaySo_104 (by decide +kernel) ?_
        refine g_callW (As := [.int (nI 1), .int (nI 1)]) (Aw := wX D a P J_20) O (X_waiting_1 l D z a P 1 J_20 hI.1 hB (by first | omega | assumption)) gL_isPlaySo_X8_waiting rfl rfl rfl 2 (by decide +kernel) (by decide) (by decide) rfl rfl rfl rfl rfl (Nat.le_of_ble_eq_true rfl) dL_isPlaySo_105 (fun r9 w9 hp => ?_)
        obtain ⟨rfl, J_23, rfl⟩ := hp
        refine g_eq (st' := [.int (nI (sv_fa (p_s P) 1))]) (ws' := wX D a P J_23) rfl rfl rfl ?_
        refine g_istore (L' := [(0, .ref (a 0)), (1, .int (-5)), (2, .int (nI (sv_fk (p_s P) 0))), (3, .int (nI (smN (sv_g (p_s P)) 144))), (4, .int (sv_fl (p_s P))), (5, .int (sv_mu (p_s P))), (6, .int (nI (sv_ps (p_s P)))), (7, .int (laM (sv_la (p_s P)))), (8, .int (sv_sk (p_s P))), (9, .int (nI 0)), (10, .int (nI (sv_fa (p_s P) 1)))]) O dL_isPlaySo_108 (by decide) [1, 2, 3, 4, 5, 6, 7, 8, 9, 10, 0] rfl ?_
        refine g_aload_n O dL_isPlaySo_110 0 rfl rfl ?_
        refine g_iconst (x := (nI 1)) O dL_isPlaySo_111 (by decide +kernel) ?_
        refine g_callW (As := [.int (nI 1)]) (Aw := wX D a P J_23) O (X_play_1 l D z a P J_23 hI.1 hB (by first | omega | assumption)) gL_isPlaySo_X8_play rfl rfl rfl 1 (by decide +kernel) (by decide) (by decide) rfl rfl rfl rfl rfl (Nat.le_of_ble_eq_true rfl) dL_isPlaySo_112 (fun r9 w9 hp => ?_)
        obtain ⟨rfl, J_24, rfl⟩ := hp
        refine g_eq (st' := [.int (nI (plL (p_s P) 1))]) (ws' := wX D a (plP P) J_24) rfl rfl rfl ?_
        refine g_eq (st' := [.int (nI 0)]) (by rw [plL_n hwy]) rfl rfl ?_
        refine g_istore (L' := [(0, .ref (a 0)), (1, .int (-5)), (2, .int (nI (sv_fk (p_s P) 0))), (3, .int (nI (smN (sv_g (p_s P)) 144))), (4, .int (sv_fl (p_s P))), (5, .int (sv_mu (p_s P))), (6, .int (nI (sv_ps (p_s P)))), (7, .int (laM (sv_la (p_s P)))), (8, .int (sv_sk (p_s P))), (9, .int (nI 0)), (10, .int (nI (sv_fa (p_s P) 1))), (11, .int (nI 0))]) O dL_isPlaySo_115 (by decide) [1, 2, 3, 4, 5, 6, 7, 8, 9, 10, 11, 0] rfl ?_
        refine g_aload_n O dL_isPlaySo_117 0 rfl rfl ?_
        refine g_iconst (x := (nI 5)) O dL_isPlaySo_118 (by decide +kernel) ?_
        refine g_callW (As := [.int (nI 5)]) (Aw := wX D a (plP P) J_24) O (X_count_5 l D z a (plP P) J_24 hP1.1 hB ) gL_isPlaySo_X8_count rfl rfl rfl 1 (by decide +kernel) (by decide) (by decide) rfl rfl rfl rfl rfl (Nat.le_of_ble_eq_true rfl) dL_isPlaySo_119 (fun r9 w9 hp => ?_)
        obtain ⟨rfl, J_25, rfl⟩ := hp
        refine g_eq (st' := [.int (nI (sv_ps (p_s (plP P))))]) (ws' := wX D a (plP P) J_25) rfl rfl rfl ?_
        refine g_eq (st' := [.int (nI (sv_ps (p_s P) - 1))]) (by rw [plP_ps]) rfl rfl ?_
        refine g_iload O dL_isPlaySo_122 6 rfl ?_
        refine g_iconst (x := (nI 1)) O dL_isPlaySo_124 (by decide +kernel) ?_
        refine g_isubN O (by omega) dL_isPlaySo_125 ?_
        refine g_icmp_neN (tgt := 214) O (by omega) (by omega) dL_isPlaySo_126 (by decide) (fun c_26 => (by exact absurd rfl c_26)) (fun c_26 => ?_)
        refine g_aload_n O dL_isPlaySo_129 0 rfl rfl ?_
        refine g_iconst (x := (nI 0)) O dL_isPlaySo_130 (by decide +kernel) ?_
        refine g_iconst (x := (nI 1)) O dL_isPlaySo_131 (by decide +kernel) ?_
        refine g_callW (As := [.int (nI 0), .int (nI 1)]) (Aw := wX D a (plP P) J_25) O (X_waiting_1 l D z a (plP P) 0 J_25 hP1.1 hB (by rw [plP_ps]; omega)) gL_isPlaySo_X8_waiting rfl rfl rfl 2 (by decide +kernel) (by decide) (by decide) rfl rfl rfl rfl rfl (Nat.le_of_ble_eq_true rfl) dL_isPlaySo_132 (fun r9 w9 hp => ?_)
        obtain ⟨rfl, J_27, rfl⟩ := hp
        refine g_eq (st' := [.int (nI (sv_fa (p_s (plP P)) 0))]) (ws' := wX D a (plP P) J_27) rfl rfl rfl ?_
        refine g_eq (st' := [.int (nI (sv_fa (p_s P) 1))]) (by rw [plP_fa htwo]) rfl rfl ?_
        refine g_iload O dL_isPlaySo_135 10 rfl ?_
        refine g_icmp_neN (tgt := 214) O (by omega) (by omega) dL_isPlaySo_137 (by decide) (fun c_28 => (by exact absurd rfl c_28)) (fun c_28 => ?_)
        refine g_iload O dL_isPlaySo_140 11 rfl ?_
        refine g_iload_n O dL_isPlaySo_142 1 rfl rfl ?_
        refine g_if_ge (tgt := 150) O dL_isPlaySo_143 (by decide) (fun c_29 => (by exact absurd c_29 (by decide +kernel))) (fun c_29 => ?_)
        refine g_iconst (x := (nI 0)) O dL_isPlaySo_146 (by decide +kernel) ?_
        refine g_goto (tgt := 151) O dL_isPlaySo_147 (by decide) ?_
        refine g_icmp_neN (tgt := 214) O (by omega) (by omega) dL_isPlaySo_151 (by decide) (fun c_30 => absurd c_30 (by decide)) (fun c_30 => ?_)
        refine g_aload_n O dL_isPlaySo_154 0 rfl rfl ?_
        refine g_bipush (x := (nI 8)) O dL_isPlaySo_155 (by decide +kernel) ?_
        refine g_callW (As := [.int (nI 8)]) (Aw := wX D a (plP P) J_27) O (X_count_8 l D z a (plP P) J_27 hP1.1 hB ) gL_isPlaySo_X8_count rfl rfl rfl 1 (by decide +kernel) (by decide) (by decide) rfl rfl rfl rfl rfl (Nat.le_of_ble_eq_true rfl) dL_isPlaySo_157 (fun r9 w9 hp => ?_)
        obtain ⟨rfl, J_31, rfl⟩ := hp
        refine g_eq (st' := [.int (laM (sv_la (p_s (plP P))))]) (ws' := wX D a (plP P) J_31) rfl rfl rfl ?_
        refine g_eq (st' := [.int (laM (sv_la (p_s P)))]) (by rw [plP_la_n P hwy]) rfl rfl ?_
        refine g_iload_n O dL_isPlaySo_160 1 rfl rfl ?_
        refine g_if_ge (tgt := 169) O dL_isPlaySo_161 (by decide) (fun c_32 => (by exact absurd c_32 (by decide +kernel))) (fun c_32 => ?_)
        refine g_iload O dL_isPlaySo_164 7 rfl ?_
        refine g_goto (tgt := 170) O dL_isPlaySo_166 (by decide) ?_
        refine g_icmp_ne (tgt := 214) O dL_isPlaySo_170 (by decide) (fun c_33 => (by exact absurd rfl c_33)) (fun c_33 => ?_)
        refine g_aload_n O dL_isPlaySo_173 0 rfl rfl ?_
        refine g_bipush (x := (nI 7)) O dL_isPlaySo_174 (by decide +kernel) ?_
        refine g_callW (As := [.int (nI 7)]) (Aw := wX D a (plP P) J_31) O (X_count_7 l D z a (plP P) J_31 hP1.1 hB ) gL_isPlaySo_X8_count rfl rfl rfl 1 (by decide +kernel) (by decide) (by decide) rfl rfl rfl rfl rfl (Nat.le_of_ble_eq_true rfl) dL_isPlaySo_176 (fun r9 w9 hp => ?_)
        obtain ⟨rfl, J_34, rfl⟩ := hp
        refine g_eq (st' := [.int (sv_mu (p_s (plP P)))]) (ws' := wX D a (plP P) J_34) rfl rfl rfl ?_
        refine g_eq (st' := [.int (sv_mu (p_s P) + nI 1)]) (by rw [plP_mu_n P hwy]) rfl rfl ?_
        refine g_iload O dL_isPlaySo_179 5 rfl ?_
        refine g_iconst (x := (nI 1)) O dL_isPlaySo_181 (by decide +kernel) ?_
        refine g_iadd O dL_isPlaySo_182 ?_
        refine g_iload O dL_isPlaySo_183 11 rfl ?_
        refine g_isub O dL_isPlaySo_185 ?_
        refine g_icmp_ne (tgt := 214) O dL_isPlaySo_186 (by decide) (fun c_35 => (by exact absurd (by rw [nI_0]; exact (Int32.sub_zero _).symm) c_35)) (fun c_35 => ?_)
        refine g_aload_n O dL_isPlaySo_189 0 rfl rfl ?_
        refine g_bipush (x := (nI 6)) O dL_isPlaySo_190 (by decide +kernel) ?_
        refine g_callW (As := [.int (nI 6)]) (Aw := wX D a (plP P) J_34) O (X_count_6 l D z a (plP P) J_34 hP1.1 hB ) gL_isPlaySo_X8_count rfl rfl rfl 1 (by decide +kernel) (by decide) (by decide) rfl rfl rfl rfl rfl (Nat.le_of_ble_eq_true rfl) dL_isPlaySo_192 (fun r9 w9 hp => ?_)
        obtain ⟨rfl, J_36, rfl⟩ := hp
        refine g_eq (st' := [.int (sv_sk (p_s (plP P)))]) (ws' := wX D a (plP P) J_36) rfl rfl rfl ?_
        refine g_eq (st' := [.int (sv_sk (p_s P))]) (by rw [plP_sk_n P hwy]) rfl rfl ?_
        refine g_iload O dL_isPlaySo_195 8 rfl ?_
        refine g_iload_n O dL_isPlaySo_197 1 rfl rfl ?_
        refine g_if_ge (tgt := 205) O dL_isPlaySo_198 (by decide) (fun c_37 => (by exact absurd c_37 (by decide +kernel))) (fun c_37 => ?_)
        refine g_iconst (x := (nI 0)) O dL_isPlaySo_201 (by decide +kernel) ?_
        refine g_goto (tgt := 206) O dL_isPlaySo_202 (by decide) ?_
        refine g_iadd O dL_isPlaySo_206 ?_
        refine g_icmp_ne (tgt := 214) O dL_isPlaySo_207 (by decide) (fun c_38 => (by exact absurd (by rw [nI_0]; exact (Int32.add_zero _).symm) c_38)) (fun c_38 => ?_)
        refine g_iconst (x := (nI 1)) O dL_isPlaySo_210 (by decide +kernel) ?_
        refine g_goto (tgt := 215) O dL_isPlaySo_211 (by decide) ?_
        refine g_istore (L' := [(0, .ref (a 0)), (1, .int (-5)), (2, .int (nI (sv_fk (p_s P) 0))), (3, .int (nI (smN (sv_g (p_s P)) 144))), (4, .int (sv_fl (p_s P))), (5, .int (sv_mu (p_s P))), (6, .int (nI (sv_ps (p_s P)))), (7, .int (laM (sv_la (p_s P)))), (8, .int (sv_sk (p_s P))), (9, .int (nI 0)), (10, .int (nI (sv_fa (p_s P) 1))), (11, .int (nI 0)), (12, .int (nI 1))]) O dL_isPlaySo_215 (by decide) [1, 2, 3, 4, 5, 6, 7, 8, 9, 10, 11, 12, 0] rfl ?_
        refine g_iload O dL_isPlaySo_217 12 rfl ?_
        refine g_if_eqN (tgt := 272) O (by omega) dL_isPlaySo_219 (by decide) (fun c_39 => absurd c_39 (by decide)) (fun c_39 => ?_)
        refine g_iload_n O dL_isPlaySo_222 1 rfl rfl ?_
        refine g_if_ge (tgt := 238) O dL_isPlaySo_223 (by decide) (fun c_40 => (by exact absurd c_40 (by decide +kernel))) (fun c_40 => ?_)
        refine g_aload_n O dL_isPlaySo_226 0 rfl rfl ?_
        refine g_iconst (x := (nI 0)) O dL_isPlaySo_227 (by decide +kernel) ?_
        refine g_callW (As := [.int (nI 0)]) (Aw := wX D a (plP P) J_36) O (X_count_0 l D z a (plP P) J_36 hP1.1 hB ) gL_isPlaySo_X8_count rfl rfl rfl 1 (by decide +kernel) (by decide) (by decide) rfl rfl rfl rfl rfl (Nat.le_of_ble_eq_true rfl) dL_isPlaySo_228 (fun r9 w9 hp => ?_)
        obtain ⟨rfl, J_41, rfl⟩ := hp
        refine g_eq (st' := [.int (nI (smN (sv_g (p_s (plP P))) 144))]) (ws' := wX D a (plP P) J_41) rfl rfl rfl ?_
        refine g_eq (st' := [.int (nI (smN (sv_g (p_s P)) 144))]) (by rw [plP_g_n P hwy]) rfl rfl ?_
        refine g_iload_n O dL_isPlaySo_231 3 rfl rfl ?_
        refine g_icmp_neN (tgt := 272) O (by omega) (by omega) dL_isPlaySo_232 (by decide) (fun c_42 => (by exact absurd rfl c_42)) (fun c_42 => ?_)
        refine g_goto (tgt := 268) O dL_isPlaySo_235 (by decide) ?_
        refine g_iconst (x := (nI 1)) O dL_isPlaySo_268 (by decide +kernel) ?_
        refine g_goto (tgt := 273) O dL_isPlaySo_269 (by decide) ?_
        refine g_istore (L' := [(0, .ref (a 0)), (1, .int (-5)), (2, .int (nI (sv_fk (p_s P) 0))), (3, .int (nI (smN (sv_g (p_s P)) 144))), (4, .int (sv_fl (p_s P))), (5, .int (sv_mu (p_s P))), (6, .int (nI (sv_ps (p_s P)))), (7, .int (laM (sv_la (p_s P)))), (8, .int (sv_sk (p_s P))), (9, .int (nI 0)), (10, .int (nI (sv_fa (p_s P) 1))), (11, .int (nI 0)), (12, .int (nI 1))]) O dL_isPlaySo_273 (by decide) [1, 2, 3, 4, 5, 6, 7, 8, 9, 10, 11, 12, 0] rfl ?_
        refine g_aload_n O dL_isPlaySo_275 0 rfl rfl ?_
        refine g_callW (As := []) (Aw := wX D a (plP P) J_41) O (X_undo_1 l D z a (plP P) J_41 hP1.1 hB (plP_hd P)) gL_isPlaySo_X8_undo rfl rfl rfl 0 (by decide +kernel) (by decide) (by decide) rfl rfl rfl rfl rfl (Nat.le_of_ble_eq_true rfl) dL_isPlaySo_276 (fun r9 w9 hp => ?_)
        obtain ⟨rfl, J_43, rfl⟩ := hp
        refine g_eq (st' := [.int (nI (p_hd (plP P) - 1))]) (ws' := wX D a (unP (plP P)) J_43) rfl rfl rfl ?_
        refine g_istore (L' := [(0, .ref (a 0)), (1, .int (-5)), (2, .int (nI (sv_fk (p_s P) 0))), (3, .int (nI (smN (sv_g (p_s P)) 144))), (4, .int (sv_fl (p_s P))), (5, .int (sv_mu (p_s P))), (6, .int (nI (sv_ps (p_s P)))), (7, .int (laM (sv_la (p_s P)))), (8, .int (sv_sk (p_s P))), (9, .int (nI 0)), (10, .int (nI (sv_fa (p_s P) 1))), (11, .int (nI 0)), (12, .int (nI 1)), (13, .int (nI (p_hd (plP P) - 1)))]) O dL_isPlaySo_279 (by decide) [1, 2, 3, 4, 5, 6, 7, 8, 9, 10, 11, 12, 13, 0] rfl ?_
        refine g_iload O dL_isPlaySo_281 12 rfl ?_
        refine g_if_eqN (tgt := 314) O (by omega) dL_isPlaySo_283 (by decide) (fun c_44 => absurd c_44 (by decide)) (fun c_44 => ?_)
        refine g_iload O dL_isPlaySo_286 13 rfl ?_
        refine g_if_ltN (tgt := 314) O (by omega) dL_isPlaySo_288 (by decide) ?_
        refine g_aload_n O dL_isPlaySo_291 0 rfl rfl ?_
        refine g_iconst (x := (nI 0)) O dL_isPlaySo_292 (by decide +kernel) ?_
        refine g_callW (As := [.int (nI 0)]) (Aw := wX D a (unP (plP P)) J_43) O (X_count_0 l D z a (unP (plP P)) J_43 hP2.1 hB ) gL_isPlaySo_X8_count rfl rfl rfl 1 (by decide +kernel) (by decide) (by decide) rfl rfl rfl rfl rfl (Nat.le_of_ble_eq_true rfl) dL_isPlaySo_293 (fun r9 w9 hp => ?_)
        obtain ⟨rfl, J_46, rfl⟩ := hp
        refine g_eq (st' := [.int (nI (smN (sv_g (p_s (unP (plP P)))) 144))]) (ws' := wX D a (unP (plP P)) J_46) rfl rfl rfl ?_
        refine g_eq (st' := [.int (nI (smN (sv_g (p_s P)) 144))]) (by rw [unP_g hI.1]) rfl rfl ?_
        refine g_iload_n O dL_isPlaySo_296 3 rfl rfl ?_
        refine g_icmp_neN (tgt := 314) O (by omega) (by omega) dL_isPlaySo_297 (by decide) (fun c_47 => (by exact absurd rfl c_47)) (fun c_47 => ?_)
        refine g_aload_n O dL_isPlaySo_300 0 rfl rfl ?_
        refine g_iconst (x := (nI 5)) O dL_isPlaySo_301 (by decide +kernel) ?_
        refine g_callW (As := [.int (nI 5)]) (Aw := wX D a (unP (plP P)) J_46) O (X_count_5 l D z a (unP (plP P)) J_46 hP2.1 hB ) gL_isPlaySo_X8_count rfl rfl rfl 1 (by decide +kernel) (by decide) (by decide) rfl rfl rfl rfl rfl (Nat.le_of_ble_eq_true rfl) dL_isPlaySo_302 (fun r9 w9 hp => ?_)
        obtain ⟨rfl, J_48, rfl⟩ := hp
        refine g_eq (st' := [.int (nI (sv_ps (p_s (unP (plP P)))))]) (ws' := wX D a (unP (plP P)) J_48) rfl rfl rfl ?_
        refine g_eq (st' := [.int (nI (sv_ps (p_s P)))]) (by rw [unP_ps hI.1]) rfl rfl ?_
        refine g_iload O dL_isPlaySo_305 6 rfl ?_
        refine g_icmp_neN (tgt := 314) O (by omega) (by omega) dL_isPlaySo_307 (by decide) (fun c_49 => (by exact absurd rfl c_49)) (fun c_49 => ?_)
        refine g_iconst (x := (nI 1)) O dL_isPlaySo_310 (by decide +kernel) ?_
        refine g_goto (tgt := 315) O dL_isPlaySo_311 (by decide) ?_
        refine g_eq (st' := [.int (bB true)]) rfl rfl rfl ?_
        exact E 315 _ true _ dL_isPlaySo_315 ⟨unP (plP P), _, hP2, rfl, rfl⟩
      ·
        refine g_aload_n O dL_isPlaySo_102 0 rfl rfl ?_
        refine g_iconst (x := (nI 1)) O dL_isPlaySo_103 (by decide +kernel) ?_
        refine g_iconst (x := (nI 1)) O dL_isPlaySo_104 (by decide +kernel) ?_
        refine g_callW (As := [.int (nI 1), .int (nI 1)]) (Aw := wX D a P J_20) O (X_waiting_b2 l D z a P 1 1 J_20 hI.1 hB (by first | omega | assumption) (by first | omega | assumption) (by omega)) gL_isPlaySo_X8_waiting rfl rfl rfl 2 (by decide +kernel) (by decide) (by decide) rfl rfl rfl rfl rfl (Nat.le_of_ble_eq_true rfl) dL_isPlaySo_105 (fun r9 w9 hp => ?_)
        obtain ⟨rfl, J_50, rfl⟩ := hp
        refine g_eq (st' := [.int (-5)]) (ws' := wX D a P J_50) rfl rfl rfl ?_
        refine g_istore (L' := [(0, .ref (a 0)), (1, .int (-5)), (2, .int (nI (sv_fk (p_s P) 0))), (3, .int (nI (smN (sv_g (p_s P)) 144))), (4, .int (sv_fl (p_s P))), (5, .int (sv_mu (p_s P))), (6, .int (nI (sv_ps (p_s P)))), (7, .int (laM (sv_la (p_s P)))), (8, .int (sv_sk (p_s P))), (9, .int (nI 0)), (10, .int (-5))]) O dL_isPlaySo_108 (by decide) [1, 2, 3, 4, 5, 6, 7, 8, 9, 10, 0] rfl ?_
        refine g_aload_n O dL_isPlaySo_110 0 rfl rfl ?_
        refine g_iconst (x := (nI 1)) O dL_isPlaySo_111 (by decide +kernel) ?_
        refine g_callW (As := [.int (nI 1)]) (Aw := wX D a P J_50) O (X_play_1 l D z a P J_50 hI.1 hB (by first | omega | assumption)) gL_isPlaySo_X8_play rfl rfl rfl 1 (by decide +kernel) (by decide) (by decide) rfl rfl rfl rfl rfl (Nat.le_of_ble_eq_true rfl) dL_isPlaySo_112 (fun r9 w9 hp => ?_)
        obtain ⟨rfl, J_51, rfl⟩ := hp
        refine g_eq (st' := [.int (nI (plL (p_s P) 1))]) (ws' := wX D a (plP P) J_51) rfl rfl rfl ?_
        refine g_eq (st' := [.int (nI 0)]) (by rw [plL_n hwy]) rfl rfl ?_
        refine g_istore (L' := [(0, .ref (a 0)), (1, .int (-5)), (2, .int (nI (sv_fk (p_s P) 0))), (3, .int (nI (smN (sv_g (p_s P)) 144))), (4, .int (sv_fl (p_s P))), (5, .int (sv_mu (p_s P))), (6, .int (nI (sv_ps (p_s P)))), (7, .int (laM (sv_la (p_s P)))), (8, .int (sv_sk (p_s P))), (9, .int (nI 0)), (10, .int (-5)), (11, .int (nI 0))]) O dL_isPlaySo_115 (by decide) [1, 2, 3, 4, 5, 6, 7, 8, 9, 10, 11, 0] rfl ?_
        refine g_aload_n O dL_isPlaySo_117 0 rfl rfl ?_
        refine g_iconst (x := (nI 5)) O dL_isPlaySo_118 (by decide +kernel) ?_
        refine g_callW (As := [.int (nI 5)]) (Aw := wX D a (plP P) J_51) O (X_count_5 l D z a (plP P) J_51 hP1.1 hB ) gL_isPlaySo_X8_count rfl rfl rfl 1 (by decide +kernel) (by decide) (by decide) rfl rfl rfl rfl rfl (Nat.le_of_ble_eq_true rfl) dL_isPlaySo_119 (fun r9 w9 hp => ?_)
        obtain ⟨rfl, J_52, rfl⟩ := hp
        refine g_eq (st' := [.int (nI (sv_ps (p_s (plP P))))]) (ws' := wX D a (plP P) J_52) rfl rfl rfl ?_
        refine g_eq (st' := [.int (nI (sv_ps (p_s P) - 1))]) (by rw [plP_ps]) rfl rfl ?_
        refine g_iload O dL_isPlaySo_122 6 rfl ?_
        refine g_iconst (x := (nI 1)) O dL_isPlaySo_124 (by decide +kernel) ?_
        refine g_isubN O (by omega) dL_isPlaySo_125 ?_
        refine g_icmp_neN (tgt := 214) O (by omega) (by omega) dL_isPlaySo_126 (by decide) (fun c_53 => (by exact absurd rfl c_53)) (fun c_53 => ?_)
        refine g_aload_n O dL_isPlaySo_129 0 rfl rfl ?_
        refine g_iconst (x := (nI 0)) O dL_isPlaySo_130 (by decide +kernel) ?_
        refine g_iconst (x := (nI 1)) O dL_isPlaySo_131 (by decide +kernel) ?_
        refine g_callW (As := [.int (nI 0), .int (nI 1)]) (Aw := wX D a (plP P) J_52) O (X_waiting_b2 l D z a (plP P) 0 1 J_52 hP1.1 hB (by first | omega | assumption) (by first | omega | assumption) (by rw [plP_ps]; omega)) gL_isPlaySo_X8_waiting rfl rfl rfl 2 (by decide +kernel) (by decide) (by decide) rfl rfl rfl rfl rfl (Nat.le_of_ble_eq_true rfl) dL_isPlaySo_132 (fun r9 w9 hp => ?_)
        obtain ⟨rfl, J_54, rfl⟩ := hp
        refine g_eq (st' := [.int (-5)]) (ws' := wX D a (plP P) J_54) rfl rfl rfl ?_
        refine g_iload O dL_isPlaySo_135 10 rfl ?_
        refine g_icmp_ne (tgt := 214) O dL_isPlaySo_137 (by decide) (fun c_55 => (by exact absurd rfl c_55)) (fun c_55 => ?_)
        refine g_iload O dL_isPlaySo_140 11 rfl ?_
        refine g_iload_n O dL_isPlaySo_142 1 rfl rfl ?_
        refine g_if_ge (tgt := 150) O dL_isPlaySo_143 (by decide) (fun c_56 => (by exact absurd c_56 (by decide +kernel))) (fun c_56 => ?_)
        refine g_iconst (x := (nI 0)) O dL_isPlaySo_146 (by decide +kernel) ?_
        refine g_goto (tgt := 151) O dL_isPlaySo_147 (by decide) ?_
        refine g_icmp_neN (tgt := 214) O (by omega) (by omega) dL_isPlaySo_151 (by decide) (fun c_57 => absurd c_57 (by decide)) (fun c_57 => ?_)
        refine g_aload_n O dL_isPlaySo_154 0 rfl rfl ?_
        refine g_bipush (x := (nI 8)) O dL_isPlaySo_155 (by decide +kernel) ?_
        refine g_callW (As := [.int (nI 8)]) (Aw := wX D a (plP P) J_54) O (X_count_8 l D z a (plP P) J_54 hP1.1 hB ) gL_isPlaySo_X8_count rfl rfl rfl 1 (by decide +kernel) (by decide) (by decide) rfl rfl rfl rfl rfl (Nat.le_of_ble_eq_true rfl) dL_isPlaySo_157 (fun r9 w9 hp => ?_)
        obtain ⟨rfl, J_58, rfl⟩ := hp
        refine g_eq (st' := [.int (laM (sv_la (p_s (plP P))))]) (ws' := wX D a (plP P) J_58) rfl rfl rfl ?_
        refine g_eq (st' := [.int (laM (sv_la (p_s P)))]) (by rw [plP_la_n P hwy]) rfl rfl ?_
        refine g_iload_n O dL_isPlaySo_160 1 rfl rfl ?_
        refine g_if_ge (tgt := 169) O dL_isPlaySo_161 (by decide) (fun c_59 => (by exact absurd c_59 (by decide +kernel))) (fun c_59 => ?_)
        refine g_iload O dL_isPlaySo_164 7 rfl ?_
        refine g_goto (tgt := 170) O dL_isPlaySo_166 (by decide) ?_
        refine g_icmp_ne (tgt := 214) O dL_isPlaySo_170 (by decide) (fun c_60 => (by exact absurd rfl c_60)) (fun c_60 => ?_)
        refine g_aload_n O dL_isPlaySo_173 0 rfl rfl ?_
        refine g_bipush (x := (nI 7)) O dL_isPlaySo_174 (by decide +kernel) ?_
        refine g_callW (As := [.int (nI 7)]) (Aw := wX D a (plP P) J_58) O (X_count_7 l D z a (plP P) J_58 hP1.1 hB ) gL_isPlaySo_X8_count rfl rfl rfl 1 (by decide +kernel) (by decide) (by decide) rfl rfl rfl rfl rfl (Nat.le_of_ble_eq_true rfl) dL_isPlaySo_176 (fun r9 w9 hp => ?_)
        obtain ⟨rfl, J_61, rfl⟩ := hp
        refine g_eq (st' := [.int (sv_mu (p_s (plP P)))]) (ws' := wX D a (plP P) J_61) rfl rfl rfl ?_
        refine g_eq (st' := [.int (sv_mu (p_s P) + nI 1)]) (by rw [plP_mu_n P hwy]) rfl rfl ?_
        refine g_iload O dL_isPlaySo_179 5 rfl ?_
        refine g_iconst (x := (nI 1)) O dL_isPlaySo_181 (by decide +kernel) ?_
        refine g_iadd O dL_isPlaySo_182 ?_
        refine g_iload O dL_isPlaySo_183 11 rfl ?_
        refine g_isub O dL_isPlaySo_185 ?_
        refine g_icmp_ne (tgt := 214) O dL_isPlaySo_186 (by decide) (fun c_62 => (by exact absurd (by rw [nI_0]; exact (Int32.sub_zero _).symm) c_62)) (fun c_62 => ?_)
        refine g_aload_n O dL_isPlaySo_189 0 rfl rfl ?_
        refine g_bipush (x := (nI 6)) O dL_isPlaySo_190 (by decide +kernel) ?_
        refine g_callW (As := [.int (nI 6)]) (Aw := wX D a (plP P) J_61) O (X_count_6 l D z a (plP P) J_61 hP1.1 hB ) gL_isPlaySo_X8_count rfl rfl rfl 1 (by decide +kernel) (by decide) (by decide) rfl rfl rfl rfl rfl (Nat.le_of_ble_eq_true rfl) dL_isPlaySo_192 (fun r9 w9 hp => ?_)
        obtain ⟨rfl, J_63, rfl⟩ := hp
        refine g_eq (st' := [.int (sv_sk (p_s (plP P)))]) (ws' := wX D a (plP P) J_63) rfl rfl rfl ?_
        refine g_eq (st' := [.int (sv_sk (p_s P))]) (by rw [plP_sk_n P hwy]) rfl rfl ?_
        refine g_iload O dL_isPlaySo_195 8 rfl ?_
        refine g_iload_n O dL_isPlaySo_197 1 rfl rfl ?_
        refine g_if_ge (tgt := 205) O dL_isPlaySo_198 (by decide) (fun c_64 => (by exact absurd c_64 (by decide +kernel))) (fun c_64 => ?_)
        refine g_iconst (x := (nI 0)) O dL_isPlaySo_201 (by decide +kernel) ?_
        refine g_goto (tgt := 206) O dL_isPlaySo_202 (by decide) ?_
        refine g_iadd O dL_isPlaySo_206 ?_
        refine g_icmp_ne (tgt := 214) O dL_isPlaySo_207 (by decide) (fun c_65 => (by exact absurd (by rw [nI_0]; exact (Int32.add_zero _).symm) c_65)) (fun c_65 => ?_)
        refine g_iconst (x := (nI 1)) O dL_isPlaySo_210 (by decide +kernel) ?_
        refine g_goto (tgt := 215) O dL_isPlaySo_211 (by decide) ?_
        refine g_istore (L' := [(0, .ref (a 0)), (1, .int (-5)), (2, .int (nI (sv_fk (p_s P) 0))), (3, .int (nI (smN (sv_g (p_s P)) 144))), (4, .int (sv_fl (p_s P))), (5, .int (sv_mu (p_s P))), (6, .int (nI (sv_ps (p_s P)))), (7, .int (laM (sv_la (p_s P)))), (8, .int (sv_sk (p_s P))), (9, .int (nI 0)), (10, .int (-5)), (11, .int (nI 0)), (12, .int (nI 1))]) O dL_isPlaySo_215 (by decide) [1, 2, 3, 4, 5, 6, 7, 8, 9, 10, 11, 12, 0] rfl ?_
        refine g_iload O dL_isPlaySo_217 12 rfl ?_
        refine g_if_eqN (tgt := 272) O (by omega) dL_isPlaySo_219 (by decide) (fun c_66 => absurd c_66 (by decide)) (fun c_66 => ?_)
        refine g_iload_n O dL_isPlaySo_222 1 rfl rfl ?_
        refine g_if_ge (tgt := 238) O dL_isPlaySo_223 (by decide) (fun c_67 => (by exact absurd c_67 (by decide +kernel))) (fun c_67 => ?_)
        refine g_aload_n O dL_isPlaySo_226 0 rfl rfl ?_
        refine g_iconst (x := (nI 0)) O dL_isPlaySo_227 (by decide +kernel) ?_
        refine g_callW (As := [.int (nI 0)]) (Aw := wX D a (plP P) J_63) O (X_count_0 l D z a (plP P) J_63 hP1.1 hB ) gL_isPlaySo_X8_count rfl rfl rfl 1 (by decide +kernel) (by decide) (by decide) rfl rfl rfl rfl rfl (Nat.le_of_ble_eq_true rfl) dL_isPlaySo_228 (fun r9 w9 hp => ?_)
        obtain ⟨rfl, J_68, rfl⟩ := hp
        refine g_eq (st' := [.int (nI (smN (sv_g (p_s (plP P))) 144))]) (ws' := wX D a (plP P) J_68) rfl rfl rfl ?_
        refine g_eq (st' := [.int (nI (smN (sv_g (p_s P)) 144))]) (by rw [plP_g_n P hwy]) rfl rfl ?_
        refine g_iload_n O dL_isPlaySo_231 3 rfl rfl ?_
        refine g_icmp_neN (tgt := 272) O (by omega) (by omega) dL_isPlaySo_232 (by decide) (fun c_69 => (by exact absurd rfl c_69)) (fun c_69 => ?_)
        refine g_goto (tgt := 268) O dL_isPlaySo_235 (by decide) ?_
        refine g_iconst (x := (nI 1)) O dL_isPlaySo_268 (by decide +kernel) ?_
        refine g_goto (tgt := 273) O dL_isPlaySo_269 (by decide) ?_
        refine g_istore (L' := [(0, .ref (a 0)), (1, .int (-5)), (2, .int (nI (sv_fk (p_s P) 0))), (3, .int (nI (smN (sv_g (p_s P)) 144))), (4, .int (sv_fl (p_s P))), (5, .int (sv_mu (p_s P))), (6, .int (nI (sv_ps (p_s P)))), (7, .int (laM (sv_la (p_s P)))), (8, .int (sv_sk (p_s P))), (9, .int (nI 0)), (10, .int (-5)), (11, .int (nI 0)), (12, .int (nI 1))]) O dL_isPlaySo_273 (by decide) [1, 2, 3, 4, 5, 6, 7, 8, 9, 10, 11, 12, 0] rfl ?_
        refine g_aload_n O dL_isPlaySo_275 0 rfl rfl ?_
        refine g_callW (As := []) (Aw := wX D a (plP P) J_68) O (X_undo_1 l D z a (plP P) J_68 hP1.1 hB (plP_hd P)) gL_isPlaySo_X8_undo rfl rfl rfl 0 (by decide +kernel) (by decide) (by decide) rfl rfl rfl rfl rfl (Nat.le_of_ble_eq_true rfl) dL_isPlaySo_276 (fun r9 w9 hp => ?_)
        obtain ⟨rfl, J_70, rfl⟩ := hp
        refine g_eq (st' := [.int (nI (p_hd (plP P) - 1))]) (ws' := wX D a (unP (plP P)) J_70) rfl rfl rfl ?_
        refine g_istore (L' := [(0, .ref (a 0)), (1, .int (-5)), (2, .int (nI (sv_fk (p_s P) 0))), (3, .int (nI (smN (sv_g (p_s P)) 144))), (4, .int (sv_fl (p_s P))), (5, .int (sv_mu (p_s P))), (6, .int (nI (sv_ps (p_s P)))), (7, .int (laM (sv_la (p_s P)))), (8, .int (sv_sk (p_s P))), (9, .int (nI 0)), (10, .int (-5)), (11, .int (nI 0)), (12, .int (nI 1)), (13, .int (nI (p_hd (plP P) - 1)))]) O dL_isPlaySo_279 (by decide) [1, 2, 3, 4, 5, 6, 7, 8, 9, 10, 11, 12, 13, 0] rfl ?_
        refine g_iload O dL_isPlaySo_281 12 rfl ?_
        refine g_if_eqN (tgt := 314) O (by omega) dL_isPlaySo_283 (by decide) (fun c_71 => absurd c_71 (by decide)) (fun c_71 => ?_)
        refine g_iload O dL_isPlaySo_286 13 rfl ?_
        refine g_if_ltN (tgt := 314) O (by omega) dL_isPlaySo_288 (by decide) ?_
        refine g_aload_n O dL_isPlaySo_291 0 rfl rfl ?_
        refine g_iconst (x := (nI 0)) O dL_isPlaySo_292 (by decide +kernel) ?_
        refine g_callW (As := [.int (nI 0)]) (Aw := wX D a (unP (plP P)) J_70) O (X_count_0 l D z a (unP (plP P)) J_70 hP2.1 hB ) gL_isPlaySo_X8_count rfl rfl rfl 1 (by decide +kernel) (by decide) (by decide) rfl rfl rfl rfl rfl (Nat.le_of_ble_eq_true rfl) dL_isPlaySo_293 (fun r9 w9 hp => ?_)
        obtain ⟨rfl, J_73, rfl⟩ := hp
        refine g_eq (st' := [.int (nI (smN (sv_g (p_s (unP (plP P)))) 144))]) (ws' := wX D a (unP (plP P)) J_73) rfl rfl rfl ?_
        refine g_eq (st' := [.int (nI (smN (sv_g (p_s P)) 144))]) (by rw [unP_g hI.1]) rfl rfl ?_
        refine g_iload_n O dL_isPlaySo_296 3 rfl rfl ?_
        refine g_icmp_neN (tgt := 314) O (by omega) (by omega) dL_isPlaySo_297 (by decide) (fun c_74 => (by exact absurd rfl c_74)) (fun c_74 => ?_)
        refine g_aload_n O dL_isPlaySo_300 0 rfl rfl ?_
        refine g_iconst (x := (nI 5)) O dL_isPlaySo_301 (by decide +kernel) ?_
        refine g_callW (As := [.int (nI 5)]) (Aw := wX D a (unP (plP P)) J_73) O (X_count_5 l D z a (unP (plP P)) J_73 hP2.1 hB ) gL_isPlaySo_X8_count rfl rfl rfl 1 (by decide +kernel) (by decide) (by decide) rfl rfl rfl rfl rfl (Nat.le_of_ble_eq_true rfl) dL_isPlaySo_302 (fun r9 w9 hp => ?_)
        obtain ⟨rfl, J_75, rfl⟩ := hp
        refine g_eq (st' := [.int (nI (sv_ps (p_s (unP (plP P)))))]) (ws' := wX D a (unP (plP P)) J_75) rfl rfl rfl ?_
        refine g_eq (st' := [.int (nI (sv_ps (p_s P)))]) (by rw [unP_ps hI.1]) rfl rfl ?_
        refine g_iload O dL_isPlaySo_305 6 rfl ?_
        refine g_icmp_neN (tgt := 314) O (by omega) (by omega) dL_isPlaySo_307 (by decide) (fun c_76 => (by exact absurd rfl c_76)) (fun c_76 => ?_)
        refine g_iconst (x := (nI 1)) O dL_isPlaySo_310 (by decide +kernel) ?_
        refine g_goto (tgt := 315) O dL_isPlaySo_311 (by decide) ?_
        refine g_eq (st' := [.int (bB true)]) rfl rfl rfl ?_
        exact E 315 _ true _ dL_isPlaySo_315 ⟨unP (plP P), _, hP2, rfl, rfl⟩
    | some wv =>
      have hw48 := wyO_lt hwy
      have hgs := plP_gs P hwy
      have hg1 := gsN_le (p_s P) wv 144
      have hg2 := gsN_le (p_s (plP P)) wv 144
      refine g_aload_n O dL_isPlaySo_0 0 rfl rfl ?_
      refine g_iconst (x := (nI 0)) O dL_isPlaySo_1 (by decide +kernel) ?_
      refine g_iconst (x := (nI 3)) O dL_isPlaySo_2 (by decide +kernel) ?_
      refine g_callW (As := [.int (nI 0), .int (nI 3)]) (Aw := wX D a P J) O (X_waiting_3 l D z a P 0 J hI.1 hB (by first | omega | assumption)) gL_isPlaySo_X8_waiting rfl rfl rfl 2 (by decide +kernel) (by decide) (by decide) rfl rfl rfl rfl rfl (Nat.le_of_ble_eq_true rfl) dL_isPlaySo_3 (fun r9 w9 hp => ?_)
      obtain ⟨rfl, J_77, rfl⟩ := hp
      refine g_eq (st' := [.int (laM (orM (wyO (p_s P) (bpN (sv_fs (p_s P) 0) (sv_fa (p_s P) 0)))))]) (ws' := wX D a P J_77) rfl rfl rfl ?_
      refine g_eq (st' := [.int (nI wv)]) (by rw [hwy, laM_n (by omega)]) rfl rfl ?_
      refine g_istore_n (L' := [(0, .ref (a 0)), (1, .int (nI wv))]) O dL_isPlaySo_6 rfl (by decide) [1, 0] rfl ?_
      refine g_aload_n O dL_isPlaySo_7 0 rfl rfl ?_
      refine g_iconst (x := (nI 0)) O dL_isPlaySo_8 (by decide +kernel) ?_
      refine g_iconst (x := (nI 2)) O dL_isPlaySo_9 (by decide +kernel) ?_
      refine g_callW (As := [.int (nI 0), .int (nI 2)]) (Aw := wX D a P J_77) O (X_waiting_2 l D z a P 0 J_77 hI.1 hB (by first | omega | assumption)) gL_isPlaySo_X8_waiting rfl rfl rfl 2 (by decide +kernel) (by decide) (by decide) rfl rfl rfl rfl rfl (Nat.le_of_ble_eq_true rfl) dL_isPlaySo_10 (fun r9 w9 hp => ?_)
      obtain ⟨rfl, J_78, rfl⟩ := hp
      refine g_eq (st' := [.int (nI (sv_fk (p_s P) 0))]) (ws' := wX D a P J_78) rfl rfl rfl ?_
      refine g_istore_n (L' := [(0, .ref (a 0)), (1, .int (nI wv)), (2, .int (nI (sv_fk (p_s P) 0)))]) O dL_isPlaySo_13 rfl (by decide) [1, 2, 0] rfl ?_
      refine g_aload_n O dL_isPlaySo_14 0 rfl rfl ?_
      refine g_iconst (x := (nI 0)) O dL_isPlaySo_15 (by decide +kernel) ?_
      refine g_callW (As := [.int (nI 0)]) (Aw := wX D a P J_78) O (X_count_0 l D z a P J_78 hI.1 hB ) gL_isPlaySo_X8_count rfl rfl rfl 1 (by decide +kernel) (by decide) (by decide) rfl rfl rfl rfl rfl (Nat.le_of_ble_eq_true rfl) dL_isPlaySo_16 (fun r9 w9 hp => ?_)
      obtain ⟨rfl, J_79, rfl⟩ := hp
      refine g_eq (st' := [.int (nI (smN (sv_g (p_s P)) 144))]) (ws' := wX D a P J_79) rfl rfl rfl ?_
      refine g_istore_n (L' := [(0, .ref (a 0)), (1, .int (nI wv)), (2, .int (nI (sv_fk (p_s P) 0))), (3, .int (nI (smN (sv_g (p_s P)) 144)))]) O dL_isPlaySo_19 rfl (by decide) [1, 2, 3, 0] rfl ?_
      refine g_aload_n O dL_isPlaySo_20 0 rfl rfl ?_
      refine g_iconst (x := (nI 3)) O dL_isPlaySo_21 (by decide +kernel) ?_
      refine g_callW (As := [.int (nI 3)]) (Aw := wX D a P J_79) O (X_count_3 l D z a P J_79 hI.1 hB ) gL_isPlaySo_X8_count rfl rfl rfl 1 (by decide +kernel) (by decide) (by decide) rfl rfl rfl rfl rfl (Nat.le_of_ble_eq_true rfl) dL_isPlaySo_22 (fun r9 w9 hp => ?_)
      obtain ⟨rfl, J_80, rfl⟩ := hp
      refine g_eq (st' := [.int (sv_fl (p_s P))]) (ws' := wX D a P J_80) rfl rfl rfl ?_
      refine g_istore (L' := [(0, .ref (a 0)), (1, .int (nI wv)), (2, .int (nI (sv_fk (p_s P) 0))), (3, .int (nI (smN (sv_g (p_s P)) 144))), (4, .int (sv_fl (p_s P)))]) O dL_isPlaySo_25 (by decide) [1, 2, 3, 4, 0] rfl ?_
      refine g_aload_n O dL_isPlaySo_27 0 rfl rfl ?_
      refine g_bipush (x := (nI 7)) O dL_isPlaySo_28 (by decide +kernel) ?_
      refine g_callW (As := [.int (nI 7)]) (Aw := wX D a P J_80) O (X_count_7 l D z a P J_80 hI.1 hB ) gL_isPlaySo_X8_count rfl rfl rfl 1 (by decide +kernel) (by decide) (by decide) rfl rfl rfl rfl rfl (Nat.le_of_ble_eq_true rfl) dL_isPlaySo_30 (fun r9 w9 hp => ?_)
      obtain ⟨rfl, J_81, rfl⟩ := hp
      refine g_eq (st' := [.int (sv_mu (p_s P))]) (ws' := wX D a P J_81) rfl rfl rfl ?_
      refine g_istore (L' := [(0, .ref (a 0)), (1, .int (nI wv)), (2, .int (nI (sv_fk (p_s P) 0))), (3, .int (nI (smN (sv_g (p_s P)) 144))), (4, .int (sv_fl (p_s P))), (5, .int (sv_mu (p_s P)))]) O dL_isPlaySo_33 (by decide) [1, 2, 3, 4, 5, 0] rfl ?_
      refine g_aload_n O dL_isPlaySo_35 0 rfl rfl ?_
      refine g_iconst (x := (nI 5)) O dL_isPlaySo_36 (by decide +kernel) ?_
      refine g_callW (As := [.int (nI 5)]) (Aw := wX D a P J_81) O (X_count_5 l D z a P J_81 hI.1 hB ) gL_isPlaySo_X8_count rfl rfl rfl 1 (by decide +kernel) (by decide) (by decide) rfl rfl rfl rfl rfl (Nat.le_of_ble_eq_true rfl) dL_isPlaySo_37 (fun r9 w9 hp => ?_)
      obtain ⟨rfl, J_82, rfl⟩ := hp
      refine g_eq (st' := [.int (nI (sv_ps (p_s P)))]) (ws' := wX D a P J_82) rfl rfl rfl ?_
      refine g_istore (L' := [(0, .ref (a 0)), (1, .int (nI wv)), (2, .int (nI (sv_fk (p_s P) 0))), (3, .int (nI (smN (sv_g (p_s P)) 144))), (4, .int (sv_fl (p_s P))), (5, .int (sv_mu (p_s P))), (6, .int (nI (sv_ps (p_s P))))]) O dL_isPlaySo_40 (by decide) [1, 2, 3, 4, 5, 6, 0] rfl ?_
      refine g_aload_n O dL_isPlaySo_42 0 rfl rfl ?_
      refine g_bipush (x := (nI 8)) O dL_isPlaySo_43 (by decide +kernel) ?_
      refine g_callW (As := [.int (nI 8)]) (Aw := wX D a P J_82) O (X_count_8 l D z a P J_82 hI.1 hB ) gL_isPlaySo_X8_count rfl rfl rfl 1 (by decide +kernel) (by decide) (by decide) rfl rfl rfl rfl rfl (Nat.le_of_ble_eq_true rfl) dL_isPlaySo_45 (fun r9 w9 hp => ?_)
      obtain ⟨rfl, J_83, rfl⟩ := hp
      refine g_eq (st' := [.int (laM (sv_la (p_s P)))]) (ws' := wX D a P J_83) rfl rfl rfl ?_
      refine g_istore (L' := [(0, .ref (a 0)), (1, .int (nI wv)), (2, .int (nI (sv_fk (p_s P) 0))), (3, .int (nI (smN (sv_g (p_s P)) 144))), (4, .int (sv_fl (p_s P))), (5, .int (sv_mu (p_s P))), (6, .int (nI (sv_ps (p_s P)))), (7, .int (laM (sv_la (p_s P))))]) O dL_isPlaySo_48 (by decide) [1, 2, 3, 4, 5, 6, 7, 0] rfl ?_
      refine g_aload_n O dL_isPlaySo_50 0 rfl rfl ?_
      refine g_bipush (x := (nI 6)) O dL_isPlaySo_51 (by decide +kernel) ?_
      refine g_callW (As := [.int (nI 6)]) (Aw := wX D a P J_83) O (X_count_6 l D z a P J_83 hI.1 hB ) gL_isPlaySo_X8_count rfl rfl rfl 1 (by decide +kernel) (by decide) (by decide) rfl rfl rfl rfl rfl (Nat.le_of_ble_eq_true rfl) dL_isPlaySo_53 (fun r9 w9 hp => ?_)
      obtain ⟨rfl, J_84, rfl⟩ := hp
      refine g_eq (st' := [.int (sv_sk (p_s P))]) (ws' := wX D a P J_84) rfl rfl rfl ?_
      refine g_istore (L' := [(0, .ref (a 0)), (1, .int (nI wv)), (2, .int (nI (sv_fk (p_s P) 0))), (3, .int (nI (smN (sv_g (p_s P)) 144))), (4, .int (sv_fl (p_s P))), (5, .int (sv_mu (p_s P))), (6, .int (nI (sv_ps (p_s P)))), (7, .int (laM (sv_la (p_s P)))), (8, .int (sv_sk (p_s P)))]) O dL_isPlaySo_56 (by decide) [1, 2, 3, 4, 5, 6, 7, 8, 0] rfl ?_
      refine g_iload O dL_isPlaySo_58 6 rfl ?_
      refine g_if_neN (tgt := 85) O (by omega) dL_isPlaySo_60 (by decide) (fun c_85 => ?_) (fun c_85 => (by omega))
      refine g_iload_n O dL_isPlaySo_85 1 rfl rfl ?_
      refine g_if_geN (tgt := 93) O (by omega) dL_isPlaySo_86 (by decide) ?_
      refine g_aload_n O dL_isPlaySo_93 0 rfl rfl ?_
      refine g_iload_n O dL_isPlaySo_94 1 rfl rfl ?_
      refine g_bipush (x := (nI 6)) O dL_isPlaySo_95 (by decide +kernel) ?_
      refine g_callW (As := [.int (nI wv), .int (nI 6)]) (Aw := wX D a P J_84) O (X_way_6 l D z a P wv J_84 hI.1 hB (by first | omega | assumption)) gL_isPlaySo_X8_way rfl rfl rfl 2 (by decide +kernel) (by decide) (by decide) rfl rfl rfl rfl rfl (Nat.le_of_ble_eq_true rfl) dL_isPlaySo_97 (fun r9 w9 hp => ?_)
      obtain ⟨rfl, J_87, rfl⟩ := hp
      refine g_eq (st' := [.int (nI (gsN (p_s P) wv 144))]) (ws' := wX D a P J_87) rfl rfl rfl ?_
      refine g_istore (L' := [(0, .ref (a 0)), (1, .int (nI wv)), (2, .int (nI (sv_fk (p_s P) 0))), (3, .int (nI (smN (sv_g (p_s P)) 144))), (4, .int (sv_fl (p_s P))), (5, .int (sv_mu (p_s P))), (6, .int (nI (sv_ps (p_s P)))), (7, .int (laM (sv_la (p_s P)))), (8, .int (sv_sk (p_s P))), (9, .int (nI (gsN (p_s P) wv 144)))]) O dL_isPlaySo_100 (by decide) [1, 2, 3, 4, 5, 6, 7, 8, 9, 0] rfl ?_
      by_cases htwo : 1 < sv_ps (p_s P)
      ·
        refine g_aload_n O dL_isPlaySo_102 0 rfl rfl ?_
        refine g_iconst (x := (nI 1)) O dL_isPlaySo_103 (by decide +kernel) ?_
        refine g_iconst (x := (nI 1)) O dL_isPlaySo_104 (by decide +kernel) ?_
        refine g_callW (As := [.int (nI 1), .int (nI 1)]) (Aw := wX D a P J_87) O (X_waiting_1 l D z a P 1 J_87 hI.1 hB (by first | omega | assumption)) gL_isPlaySo_X8_waiting rfl rfl rfl 2 (by decide +kernel) (by decide) (by decide) rfl rfl rfl rfl rfl (Nat.le_of_ble_eq_true rfl) dL_isPlaySo_105 (fun r9 w9 hp => ?_)
        obtain ⟨rfl, J_88, rfl⟩ := hp
        refine g_eq (st' := [.int (nI (sv_fa (p_s P) 1))]) (ws' := wX D a P J_88) rfl rfl rfl ?_
        refine g_istore (L' := [(0, .ref (a 0)), (1, .int (nI wv)), (2, .int (nI (sv_fk (p_s P) 0))), (3, .int (nI (smN (sv_g (p_s P)) 144))), (4, .int (sv_fl (p_s P))), (5, .int (sv_mu (p_s P))), (6, .int (nI (sv_ps (p_s P)))), (7, .int (laM (sv_la (p_s P)))), (8, .int (sv_sk (p_s P))), (9, .int (nI (gsN (p_s P) wv 144))), (10, .int (nI (sv_fa (p_s P) 1)))]) O dL_isPlaySo_108 (by decide) [1, 2, 3, 4, 5, 6, 7, 8, 9, 10, 0] rfl ?_
        refine g_aload_n O dL_isPlaySo_110 0 rfl rfl ?_
        refine g_iconst (x := (nI 1)) O dL_isPlaySo_111 (by decide +kernel) ?_
        refine g_callW (As := [.int (nI 1)]) (Aw := wX D a P J_88) O (X_play_1 l D z a P J_88 hI.1 hB (by first | omega | assumption)) gL_isPlaySo_X8_play rfl rfl rfl 1 (by decide +kernel) (by decide) (by decide) rfl rfl rfl rfl rfl (Nat.le_of_ble_eq_true rfl) dL_isPlaySo_112 (fun r9 w9 hp => ?_)
        obtain ⟨rfl, J_89, rfl⟩ := hp
        refine g_eq (st' := [.int (nI (plL (p_s P) 1))]) (ws' := wX D a (plP P) J_89) rfl rfl rfl ?_
        refine g_eq (st' := [.int (nI 1)]) (by rw [plL_s hwy]) rfl rfl ?_
        refine g_istore (L' := [(0, .ref (a 0)), (1, .int (nI wv)), (2, .int (nI (sv_fk (p_s P) 0))), (3, .int (nI (smN (sv_g (p_s P)) 144))), (4, .int (sv_fl (p_s P))), (5, .int (sv_mu (p_s P))), (6, .int (nI (sv_ps (p_s P)))), (7, .int (laM (sv_la (p_s P)))), (8, .int (sv_sk (p_s P))), (9, .int (nI (gsN (p_s P) wv 144))), (10, .int (nI (sv_fa (p_s P) 1))), (11, .int (nI 1))]) O dL_isPlaySo_115 (by decide) [1, 2, 3, 4, 5, 6, 7, 8, 9, 10, 11, 0] rfl ?_
        refine g_aload_n O dL_isPlaySo_117 0 rfl rfl ?_
        refine g_iconst (x := (nI 5)) O dL_isPlaySo_118 (by decide +kernel) ?_
        refine g_callW (As := [.int (nI 5)]) (Aw := wX D a (plP P) J_89) O (X_count_5 l D z a (plP P) J_89 hP1.1 hB ) gL_isPlaySo_X8_count rfl rfl rfl 1 (by decide +kernel) (by decide) (by decide) rfl rfl rfl rfl rfl (Nat.le_of_ble_eq_true rfl) dL_isPlaySo_119 (fun r9 w9 hp => ?_)
        obtain ⟨rfl, J_90, rfl⟩ := hp
        refine g_eq (st' := [.int (nI (sv_ps (p_s (plP P))))]) (ws' := wX D a (plP P) J_90) rfl rfl rfl ?_
        refine g_eq (st' := [.int (nI (sv_ps (p_s P) - 1))]) (by rw [plP_ps]) rfl rfl ?_
        refine g_iload O dL_isPlaySo_122 6 rfl ?_
        refine g_iconst (x := (nI 1)) O dL_isPlaySo_124 (by decide +kernel) ?_
        refine g_isubN O (by omega) dL_isPlaySo_125 ?_
        refine g_icmp_neN (tgt := 214) O (by omega) (by omega) dL_isPlaySo_126 (by decide) (fun c_91 => (by exact absurd rfl c_91)) (fun c_91 => ?_)
        refine g_aload_n O dL_isPlaySo_129 0 rfl rfl ?_
        refine g_iconst (x := (nI 0)) O dL_isPlaySo_130 (by decide +kernel) ?_
        refine g_iconst (x := (nI 1)) O dL_isPlaySo_131 (by decide +kernel) ?_
        refine g_callW (As := [.int (nI 0), .int (nI 1)]) (Aw := wX D a (plP P) J_90) O (X_waiting_1 l D z a (plP P) 0 J_90 hP1.1 hB (by rw [plP_ps]; omega)) gL_isPlaySo_X8_waiting rfl rfl rfl 2 (by decide +kernel) (by decide) (by decide) rfl rfl rfl rfl rfl (Nat.le_of_ble_eq_true rfl) dL_isPlaySo_132 (fun r9 w9 hp => ?_)
        obtain ⟨rfl, J_92, rfl⟩ := hp
        refine g_eq (st' := [.int (nI (sv_fa (p_s (plP P)) 0))]) (ws' := wX D a (plP P) J_92) rfl rfl rfl ?_
        refine g_eq (st' := [.int (nI (sv_fa (p_s P) 1))]) (by rw [plP_fa htwo]) rfl rfl ?_
        refine g_iload O dL_isPlaySo_135 10 rfl ?_
        refine g_icmp_neN (tgt := 214) O (by omega) (by omega) dL_isPlaySo_137 (by decide) (fun c_93 => (by exact absurd rfl c_93)) (fun c_93 => ?_)
        refine g_iload O dL_isPlaySo_140 11 rfl ?_
        refine g_iload_n O dL_isPlaySo_142 1 rfl rfl ?_
        refine g_if_geN (tgt := 150) O (by omega) dL_isPlaySo_143 (by decide) ?_
        refine g_iconst (x := (nI 1)) O dL_isPlaySo_150 (by decide +kernel) ?_
        refine g_icmp_neN (tgt := 214) O (by omega) (by omega) dL_isPlaySo_151 (by decide) (fun c_95 => absurd c_95 (by decide)) (fun c_95 => ?_)
        refine g_aload_n O dL_isPlaySo_154 0 rfl rfl ?_
        refine g_bipush (x := (nI 8)) O dL_isPlaySo_155 (by decide +kernel) ?_
        refine g_callW (As := [.int (nI 8)]) (Aw := wX D a (plP P) J_92) O (X_count_8 l D z a (plP P) J_92 hP1.1 hB ) gL_isPlaySo_X8_count rfl rfl rfl 1 (by decide +kernel) (by decide) (by decide) rfl rfl rfl rfl rfl (Nat.le_of_ble_eq_true rfl) dL_isPlaySo_157 (fun r9 w9 hp => ?_)
        obtain ⟨rfl, J_96, rfl⟩ := hp
        refine g_eq (st' := [.int (laM (sv_la (p_s (plP P))))]) (ws' := wX D a (plP P) J_96) rfl rfl rfl ?_
        refine g_eq (st' := [.int (nI wv)]) (by rw [plP_la_s P hwy]) rfl rfl ?_
        refine g_iload_n O dL_isPlaySo_160 1 rfl rfl ?_
        refine g_if_geN (tgt := 169) O (by omega) dL_isPlaySo_161 (by decide) ?_
        refine g_iload_n O dL_isPlaySo_169 1 rfl rfl ?_
        refine g_icmp_neN (tgt := 214) O (by omega) (by omega) dL_isPlaySo_170 (by decide) (fun c_98 => (by exact absurd rfl c_98)) (fun c_98 => ?_)
        refine g_aload_n O dL_isPlaySo_173 0 rfl rfl ?_
        refine g_bipush (x := (nI 7)) O dL_isPlaySo_174 (by decide +kernel) ?_
        refine g_callW (As := [.int (nI 7)]) (Aw := wX D a (plP P) J_96) O (X_count_7 l D z a (plP P) J_96 hP1.1 hB ) gL_isPlaySo_X8_count rfl rfl rfl 1 (by decide +kernel) (by decide) (by decide) rfl rfl rfl rfl rfl (Nat.le_of_ble_eq_true rfl) dL_isPlaySo_176 (fun r9 w9 hp => ?_)
        obtain ⟨rfl, J_99, rfl⟩ := hp
        refine g_eq (st' := [.int (sv_mu (p_s (plP P)))]) (ws' := wX D a (plP P) J_99) rfl rfl rfl ?_
        refine g_eq (st' := [.int (sv_mu (p_s P))]) (by rw [plP_mu_s P hwy]) rfl rfl ?_
        refine g_iload O dL_isPlaySo_179 5 rfl ?_
        refine g_iconst (x := (nI 1)) O dL_isPlaySo_181 (by decide +kernel) ?_
        refine g_iadd O dL_isPlaySo_182 ?_
        refine g_iload O dL_isPlaySo_183 11 rfl ?_
        refine g_isub O dL_isPlaySo_185 ?_
        refine g_icmp_ne (tgt := 214) O dL_isPlaySo_186 (by decide) (fun c_100 => (by exact absurd (i32_nn2 _ _).symm c_100)) (fun c_100 => ?_)
        refine g_aload_n O dL_isPlaySo_189 0 rfl rfl ?_
        refine g_bipush (x := (nI 6)) O dL_isPlaySo_190 (by decide +kernel) ?_
        refine g_callW (As := [.int (nI 6)]) (Aw := wX D a (plP P) J_99) O (X_count_6 l D z a (plP P) J_99 hP1.1 hB ) gL_isPlaySo_X8_count rfl rfl rfl 1 (by decide +kernel) (by decide) (by decide) rfl rfl rfl rfl rfl (Nat.le_of_ble_eq_true rfl) dL_isPlaySo_192 (fun r9 w9 hp => ?_)
        obtain ⟨rfl, J_101, rfl⟩ := hp
        refine g_eq (st' := [.int (sv_sk (p_s (plP P)))]) (ws' := wX D a (plP P) J_101) rfl rfl rfl ?_
        refine g_eq (st' := [.int (sv_sk (p_s P) + nI (sv_fk (p_s P) 0))]) (by rw [plP_sk_s P hwy]) rfl rfl ?_
        refine g_iload O dL_isPlaySo_195 8 rfl ?_
        refine g_iload_n O dL_isPlaySo_197 1 rfl rfl ?_
        refine g_if_geN (tgt := 205) O (by omega) dL_isPlaySo_198 (by decide) ?_
        refine g_iload_n O dL_isPlaySo_205 2 rfl rfl ?_
        refine g_iadd O dL_isPlaySo_206 ?_
        refine g_icmp_ne (tgt := 214) O dL_isPlaySo_207 (by decide) (fun c_103 => (by exact absurd rfl c_103)) (fun c_103 => ?_)
        refine g_iconst (x := (nI 1)) O dL_isPlaySo_210 (by decide +kernel) ?_
        refine g_goto (tgt := 215) O dL_isPlaySo_211 (by decide) ?_
        refine g_istore (L' := [(0, .ref (a 0)), (1, .int (nI wv)), (2, .int (nI (sv_fk (p_s P) 0))), (3, .int (nI (smN (sv_g (p_s P)) 144))), (4, .int (sv_fl (p_s P))), (5, .int (sv_mu (p_s P))), (6, .int (nI (sv_ps (p_s P)))), (7, .int (laM (sv_la (p_s P)))), (8, .int (sv_sk (p_s P))), (9, .int (nI (gsN (p_s P) wv 144))), (10, .int (nI (sv_fa (p_s P) 1))), (11, .int (nI 1)), (12, .int (nI 1))]) O dL_isPlaySo_215 (by decide) [1, 2, 3, 4, 5, 6, 7, 8, 9, 10, 11, 12, 0] rfl ?_
        refine g_iload O dL_isPlaySo_217 12 rfl ?_
        refine g_if_eqN (tgt := 272) O (by omega) dL_isPlaySo_219 (by decide) (fun c_104 => absurd c_104 (by decide)) (fun c_104 => ?_)
        refine g_iload_n O dL_isPlaySo_222 1 rfl rfl ?_
        refine g_if_geN (tgt := 238) O (by omega) dL_isPlaySo_223 (by decide) ?_
        refine g_aload_n O dL_isPlaySo_238 0 rfl rfl ?_
        refine g_iload_n O dL_isPlaySo_239 1 rfl rfl ?_
        refine g_bipush (x := (nI 6)) O dL_isPlaySo_240 (by decide +kernel) ?_
        refine g_callW (As := [.int (nI wv), .int (nI 6)]) (Aw := wX D a (plP P) J_101) O (X_way_6 l D z a (plP P) wv J_101 hP1.1 hB (by first | omega | assumption)) gL_isPlaySo_X8_way rfl rfl rfl 2 (by decide +kernel) (by decide) (by decide) rfl rfl rfl rfl rfl (Nat.le_of_ble_eq_true rfl) dL_isPlaySo_242 (fun r9 w9 hp => ?_)
        obtain ⟨rfl, J_106, rfl⟩ := hp
        refine g_eq (st' := [.int (nI (gsN (p_s (plP P)) wv 144))]) (ws' := wX D a (plP P) J_106) rfl rfl rfl ?_
        refine g_iload O dL_isPlaySo_245 9 rfl ?_
        refine g_icmp_ltN (tgt := 272) O (by omega) (by omega) dL_isPlaySo_247 (by decide) (fun c_107 => (by omega)) (fun c_107 => ?_)
        refine g_aload_n O dL_isPlaySo_250 0 rfl rfl ?_
        refine g_iconst (x := (nI 0)) O dL_isPlaySo_251 (by decide +kernel) ?_
        refine g_callW (As := [.int (nI 0)]) (Aw := wX D a (plP P) J_106) O (X_count_0 l D z a (plP P) J_106 hP1.1 hB ) gL_isPlaySo_X8_count rfl rfl rfl 1 (by decide +kernel) (by decide) (by decide) rfl rfl rfl rfl rfl (Nat.le_of_ble_eq_true rfl) dL_isPlaySo_252 (fun r9 w9 hp => ?_)
        obtain ⟨rfl, J_108, rfl⟩ := hp
        refine g_eq (st' := [.int (nI (smN (sv_g (p_s (plP P))) 144))]) (ws' := wX D a (plP P) J_108) rfl rfl rfl ?_
        refine g_aload_n O dL_isPlaySo_255 0 rfl rfl ?_
        refine g_iconst (x := (nI 3)) O dL_isPlaySo_256 (by decide +kernel) ?_
        refine g_callW (As := [.int (nI 3)]) (Aw := wX D a (plP P) J_108) O (X_count_3 l D z a (plP P) J_108 hP1.1 hB ) gL_isPlaySo_X8_count rfl rfl rfl 1 (by decide +kernel) (by decide) (by decide) rfl rfl rfl rfl rfl (Nat.le_of_ble_eq_true rfl) dL_isPlaySo_257 (fun r9 w9 hp => ?_)
        obtain ⟨rfl, J_109, rfl⟩ := hp
        refine g_eq (st' := [.int (sv_fl (p_s (plP P))), .int (nI (smN (sv_g (p_s (plP P))) 144))]) (ws' := wX D a (plP P) J_109) rfl rfl rfl ?_
        refine g_iadd O dL_isPlaySo_260 ?_
        refine g_iload_n O dL_isPlaySo_261 3 rfl rfl ?_
        refine g_iload O dL_isPlaySo_262 4 rfl ?_
        refine g_iadd O dL_isPlaySo_264 ?_
        refine g_icmp_ne (tgt := 272) O dL_isPlaySo_265 (by decide) (fun c_110 => (by exact absurd (plP_keep P hwy) c_110)) (fun c_110 => ?_)
        refine g_iconst (x := (nI 1)) O dL_isPlaySo_268 (by decide +kernel) ?_
        refine g_goto (tgt := 273) O dL_isPlaySo_269 (by decide) ?_
        refine g_istore (L' := [(0, .ref (a 0)), (1, .int (nI wv)), (2, .int (nI (sv_fk (p_s P) 0))), (3, .int (nI (smN (sv_g (p_s P)) 144))), (4, .int (sv_fl (p_s P))), (5, .int (sv_mu (p_s P))), (6, .int (nI (sv_ps (p_s P)))), (7, .int (laM (sv_la (p_s P)))), (8, .int (sv_sk (p_s P))), (9, .int (nI (gsN (p_s P) wv 144))), (10, .int (nI (sv_fa (p_s P) 1))), (11, .int (nI 1)), (12, .int (nI 1))]) O dL_isPlaySo_273 (by decide) [1, 2, 3, 4, 5, 6, 7, 8, 9, 10, 11, 12, 0] rfl ?_
        refine g_aload_n O dL_isPlaySo_275 0 rfl rfl ?_
        refine g_callW (As := []) (Aw := wX D a (plP P) J_109) O (X_undo_1 l D z a (plP P) J_109 hP1.1 hB (plP_hd P)) gL_isPlaySo_X8_undo rfl rfl rfl 0 (by decide +kernel) (by decide) (by decide) rfl rfl rfl rfl rfl (Nat.le_of_ble_eq_true rfl) dL_isPlaySo_276 (fun r9 w9 hp => ?_)
        obtain ⟨rfl, J_111, rfl⟩ := hp
        refine g_eq (st' := [.int (nI (p_hd (plP P) - 1))]) (ws' := wX D a (unP (plP P)) J_111) rfl rfl rfl ?_
        refine g_istore (L' := [(0, .ref (a 0)), (1, .int (nI wv)), (2, .int (nI (sv_fk (p_s P) 0))), (3, .int (nI (smN (sv_g (p_s P)) 144))), (4, .int (sv_fl (p_s P))), (5, .int (sv_mu (p_s P))), (6, .int (nI (sv_ps (p_s P)))), (7, .int (laM (sv_la (p_s P)))), (8, .int (sv_sk (p_s P))), (9, .int (nI (gsN (p_s P) wv 144))), (10, .int (nI (sv_fa (p_s P) 1))), (11, .int (nI 1)), (12, .int (nI 1)), (13, .int (nI (p_hd (plP P) - 1)))]) O dL_isPlaySo_279 (by decide) [1, 2, 3, 4, 5, 6, 7, 8, 9, 10, 11, 12, 13, 0] rfl ?_
        refine g_iload O dL_isPlaySo_281 12 rfl ?_
        refine g_if_eqN (tgt := 314) O (by omega) dL_isPlaySo_283 (by decide) (fun c_112 => absurd c_112 (by decide)) (fun c_112 => ?_)
        refine g_iload O dL_isPlaySo_286 13 rfl ?_
        refine g_if_ltN (tgt := 314) O (by omega) dL_isPlaySo_288 (by decide) ?_
        refine g_aload_n O dL_isPlaySo_291 0 rfl rfl ?_
        refine g_iconst (x := (nI 0)) O dL_isPlaySo_292 (by decide +kernel) ?_
        refine g_callW (As := [.int (nI 0)]) (Aw := wX D a (unP (plP P)) J_111) O (X_count_0 l D z a (unP (plP P)) J_111 hP2.1 hB ) gL_isPlaySo_X8_count rfl rfl rfl 1 (by decide +kernel) (by decide) (by decide) rfl rfl rfl rfl rfl (Nat.le_of_ble_eq_true rfl) dL_isPlaySo_293 (fun r9 w9 hp => ?_)
        obtain ⟨rfl, J_114, rfl⟩ := hp
        refine g_eq (st' := [.int (nI (smN (sv_g (p_s (unP (plP P)))) 144))]) (ws' := wX D a (unP (plP P)) J_114) rfl rfl rfl ?_
        refine g_eq (st' := [.int (nI (smN (sv_g (p_s P)) 144))]) (by rw [unP_g hI.1]) rfl rfl ?_
        refine g_iload_n O dL_isPlaySo_296 3 rfl rfl ?_
        refine g_icmp_neN (tgt := 314) O (by omega) (by omega) dL_isPlaySo_297 (by decide) (fun c_115 => (by exact absurd rfl c_115)) (fun c_115 => ?_)
        refine g_aload_n O dL_isPlaySo_300 0 rfl rfl ?_
        refine g_iconst (x := (nI 5)) O dL_isPlaySo_301 (by decide +kernel) ?_
        refine g_callW (As := [.int (nI 5)]) (Aw := wX D a (unP (plP P)) J_114) O (X_count_5 l D z a (unP (plP P)) J_114 hP2.1 hB ) gL_isPlaySo_X8_count rfl rfl rfl 1 (by decide +kernel) (by decide) (by decide) rfl rfl rfl rfl rfl (Nat.le_of_ble_eq_true rfl) dL_isPlaySo_302 (fun r9 w9 hp => ?_)
        obtain ⟨rfl, J_116, rfl⟩ := hp
        refine g_eq (st' := [.int (nI (sv_ps (p_s (unP (plP P)))))]) (ws' := wX D a (unP (plP P)) J_116) rfl rfl rfl ?_
        refine g_eq (st' := [.int (nI (sv_ps (p_s P)))]) (by rw [unP_ps hI.1]) rfl rfl ?_
        refine g_iload O dL_isPlaySo_305 6 rfl ?_
        refine g_icmp_neN (tgt := 314) O (by omega) (by omega) dL_isPlaySo_307 (by decide) (fun c_117 => (by exact absurd rfl c_117)) (fun c_117 => ?_)
        refine g_iconst (x := (nI 1)) O dL_isPlaySo_310 (by decide +kernel) ?_
        refine g_goto (tgt := 315) O dL_isPlaySo_311 (by decide) ?_
        refine g_eq (st' := [.int (bB true)]) rfl rfl rfl ?_
        exact E 315 _ true _ dL_isPlaySo_315 ⟨unP (plP P), _, hP2, rfl, rfl⟩
      ·
        refine g_aload_n O dL_isPlaySo_102 0 rfl rfl ?_
        refine g_iconst (x := (nI 1)) O dL_isPlaySo_103 (by decide +kernel) ?_
        refine g_iconst (x := (nI 1)) O dL_isPlaySo_104 (by decide +kernel) ?_
        refine g_callW (As := [.int (nI 1), .int (nI 1)]) (Aw := wX D a P J_87) O (X_waiting_b2 l D z a P 1 1 J_87 hI.1 hB (by first | omega | assumption) (by first | omega | assumption) (by omega)) gL_isPlaySo_X8_waiting rfl rfl rfl 2 (by decide +kernel) (by decide) (by decide) rfl rfl rfl rfl rfl (Nat.le_of_ble_eq_true rfl) dL_isPlaySo_105 (fun r9 w9 hp => ?_)
        obtain ⟨rfl, J_118, rfl⟩ := hp
        refine g_eq (st' := [.int (-5)]) (ws' := wX D a P J_118) rfl rfl rfl ?_
        refine g_istore (L' := [(0, .ref (a 0)), (1, .int (nI wv)), (2, .int (nI (sv_fk (p_s P) 0))), (3, .int (nI (smN (sv_g (p_s P)) 144))), (4, .int (sv_fl (p_s P))), (5, .int (sv_mu (p_s P))), (6, .int (nI (sv_ps (p_s P)))), (7, .int (laM (sv_la (p_s P)))), (8, .int (sv_sk (p_s P))), (9, .int (nI (gsN (p_s P) wv 144))), (10, .int (-5))]) O dL_isPlaySo_108 (by decide) [1, 2, 3, 4, 5, 6, 7, 8, 9, 10, 0] rfl ?_
        refine g_aload_n O dL_isPlaySo_110 0 rfl rfl ?_
        refine g_iconst (x := (nI 1)) O dL_isPlaySo_111 (by decide +kernel) ?_
        refine g_callW (As := [.int (nI 1)]) (Aw := wX D a P J_118) O (X_play_1 l D z a P J_118 hI.1 hB (by first | omega | assumption)) gL_isPlaySo_X8_play rfl rfl rfl 1 (by decide +kernel) (by decide) (by decide) rfl rfl rfl rfl rfl (Nat.le_of_ble_eq_true rfl) dL_isPlaySo_112 (fun r9 w9 hp => ?_)
        obtain ⟨rfl, J_119, rfl⟩ := hp
        refine g_eq (st' := [.int (nI (plL (p_s P) 1))]) (ws' := wX D a (plP P) J_119) rfl rfl rfl ?_
        refine g_eq (st' := [.int (nI 1)]) (by rw [plL_s hwy]) rfl rfl ?_
        refine g_istore (L' := [(0, .ref (a 0)), (1, .int (nI wv)), (2, .int (nI (sv_fk (p_s P) 0))), (3, .int (nI (smN (sv_g (p_s P)) 144))), (4, .int (sv_fl (p_s P))), (5, .int (sv_mu (p_s P))), (6, .int (nI (sv_ps (p_s P)))), (7, .int (laM (sv_la (p_s P)))), (8, .int (sv_sk (p_s P))), (9, .int (nI (gsN (p_s P) wv 144))), (10, .int (-5)), (11, .int (nI 1))]) O dL_isPlaySo_115 (by decide) [1, 2, 3, 4, 5, 6, 7, 8, 9, 10, 11, 0] rfl ?_
        refine g_aload_n O dL_isPlaySo_117 0 rfl rfl ?_
        refine g_iconst (x := (nI 5)) O dL_isPlaySo_118 (by decide +kernel) ?_
        refine g_callW (As := [.int (nI 5)]) (Aw := wX D a (plP P) J_119) O (X_count_5 l D z a (plP P) J_119 hP1.1 hB ) gL_isPlaySo_X8_count rfl rfl rfl 1 (by decide +kernel) (by decide) (by decide) rfl rfl rfl rfl rfl (Nat.le_of_ble_eq_true rfl) dL_isPlaySo_119 (fun r9 w9 hp => ?_)
        obtain ⟨rfl, J_120, rfl⟩ := hp
        refine g_eq (st' := [.int (nI (sv_ps (p_s (plP P))))]) (ws' := wX D a (plP P) J_120) rfl rfl rfl ?_
        refine g_eq (st' := [.int (nI (sv_ps (p_s P) - 1))]) (by rw [plP_ps]) rfl rfl ?_
        refine g_iload O dL_isPlaySo_122 6 rfl ?_
        refine g_iconst (x := (nI 1)) O dL_isPlaySo_124 (by decide +kernel) ?_
        refine g_isubN O (by omega) dL_isPlaySo_125 ?_
        refine g_icmp_neN (tgt := 214) O (by omega) (by omega) dL_isPlaySo_126 (by decide) (fun c_121 => (by exact absurd rfl c_121)) (fun c_121 => ?_)
        refine g_aload_n O dL_isPlaySo_129 0 rfl rfl ?_
        refine g_iconst (x := (nI 0)) O dL_isPlaySo_130 (by decide +kernel) ?_
        refine g_iconst (x := (nI 1)) O dL_isPlaySo_131 (by decide +kernel) ?_
        refine g_callW (As := [.int (nI 0), .int (nI 1)]) (Aw := wX D a (plP P) J_120) O (X_waiting_b2 l D z a (plP P) 0 1 J_120 hP1.1 hB (by first | omega | assumption) (by first | omega | assumption) (by rw [plP_ps]; omega)) gL_isPlaySo_X8_waiting rfl rfl rfl 2 (by decide +kernel) (by decide) (by decide) rfl rfl rfl rfl rfl (Nat.le_of_ble_eq_true rfl) dL_isPlaySo_132 (fun r9 w9 hp => ?_)
        obtain ⟨rfl, J_122, rfl⟩ := hp
        refine g_eq (st' := [.int (-5)]) (ws' := wX D a (plP P) J_122) rfl rfl rfl ?_
        refine g_iload O dL_isPlaySo_135 10 rfl ?_
        refine g_icmp_ne (tgt := 214) O dL_isPlaySo_137 (by decide) (fun c_123 => (by exact absurd rfl c_123)) (fun c_123 => ?_)
        refine g_iload O dL_isPlaySo_140 11 rfl ?_
        refine g_iload_n O dL_isPlaySo_142 1 rfl rfl ?_
        refine g_if_geN (tgt := 150) O (by omega) dL_isPlaySo_143 (by decide) ?_
        refine g_iconst (x := (nI 1)) O dL_isPlaySo_150 (by decide +kernel) ?_
        refine g_icmp_neN (tgt := 214) O (by omega) (by omega) dL_isPlaySo_151 (by decide) (fun c_125 => absurd c_125 (by decide)) (fun c_125 => ?_)
        refine g_aload_n O dL_isPlaySo_154 0 rfl rfl ?_
        refine g_bipush (x := (nI 8)) O dL_isPlaySo_155 (by decide +kernel) ?_
        refine g_callW (As := [.int (nI 8)]) (Aw := wX D a (plP P) J_122) O (X_count_8 l D z a (plP P) J_122 hP1.1 hB ) gL_isPlaySo_X8_count rfl rfl rfl 1 (by decide +kernel) (by decide) (by decide) rfl rfl rfl rfl rfl (Nat.le_of_ble_eq_true rfl) dL_isPlaySo_157 (fun r9 w9 hp => ?_)
        obtain ⟨rfl, J_126, rfl⟩ := hp
        refine g_eq (st' := [.int (laM (sv_la (p_s (plP P))))]) (ws' := wX D a (plP P) J_126) rfl rfl rfl ?_
        refine g_eq (st' := [.int (nI wv)]) (by rw [plP_la_s P hwy]) rfl rfl ?_
        refine g_iload_n O dL_isPlaySo_160 1 rfl rfl ?_
        refine g_if_geN (tgt := 169) O (by omega) dL_isPlaySo_161 (by decide) ?_
        refine g_iload_n O dL_isPlaySo_169 1 rfl rfl ?_
        refine g_icmp_neN (tgt := 214) O (by omega) (by omega) dL_isPlaySo_170 (by decide) (fun c_128 => (by exact absurd rfl c_128)) (fun c_128 => ?_)
        refine g_aload_n O dL_isPlaySo_173 0 rfl rfl ?_
        refine g_bipush (x := (nI 7)) O dL_isPlaySo_174 (by decide +kernel) ?_
        refine g_callW (As := [.int (nI 7)]) (Aw := wX D a (plP P) J_126) O (X_count_7 l D z a (plP P) J_126 hP1.1 hB ) gL_isPlaySo_X8_count rfl rfl rfl 1 (by decide +kernel) (by decide) (by decide) rfl rfl rfl rfl rfl (Nat.le_of_ble_eq_true rfl) dL_isPlaySo_176 (fun r9 w9 hp => ?_)
        obtain ⟨rfl, J_129, rfl⟩ := hp
        refine g_eq (st' := [.int (sv_mu (p_s (plP P)))]) (ws' := wX D a (plP P) J_129) rfl rfl rfl ?_
        refine g_eq (st' := [.int (sv_mu (p_s P))]) (by rw [plP_mu_s P hwy]) rfl rfl ?_
        refine g_iload O dL_isPlaySo_179 5 rfl ?_
        refine g_iconst (x := (nI 1)) O dL_isPlaySo_181 (by decide +kernel) ?_
        refine g_iadd O dL_isPlaySo_182 ?_
        refine g_iload O dL_isPlaySo_183 11 rfl ?_
        refine g_isub O dL_isPlaySo_185 ?_
        refine g_icmp_ne (tgt := 214) O dL_isPlaySo_186 (by decide) (fun c_130 => (by exact absurd (i32_nn2 _ _).symm c_130)) (fun c_130 => ?_)
        refine g_aload_n O dL_isPlaySo_189 0 rfl rfl ?_
        refine g_bipush (x := (nI 6)) O dL_isPlaySo_190 (by decide +kernel) ?_
        refine g_callW (As := [.int (nI 6)]) (Aw := wX D a (plP P) J_129) O (X_count_6 l D z a (plP P) J_129 hP1.1 hB ) gL_isPlaySo_X8_count rfl rfl rfl 1 (by decide +kernel) (by decide) (by decide) rfl rfl rfl rfl rfl (Nat.le_of_ble_eq_true rfl) dL_isPlaySo_192 (fun r9 w9 hp => ?_)
        obtain ⟨rfl, J_131, rfl⟩ := hp
        refine g_eq (st' := [.int (sv_sk (p_s (plP P)))]) (ws' := wX D a (plP P) J_131) rfl rfl rfl ?_
        refine g_eq (st' := [.int (sv_sk (p_s P) + nI (sv_fk (p_s P) 0))]) (by rw [plP_sk_s P hwy]) rfl rfl ?_
        refine g_iload O dL_isPlaySo_195 8 rfl ?_
        refine g_iload_n O dL_isPlaySo_197 1 rfl rfl ?_
        refine g_if_geN (tgt := 205) O (by omega) dL_isPlaySo_198 (by decide) ?_
        refine g_iload_n O dL_isPlaySo_205 2 rfl rfl ?_
        refine g_iadd O dL_isPlaySo_206 ?_
        refine g_icmp_ne (tgt := 214) O dL_isPlaySo_207 (by decide) (fun c_133 => (by exact absurd rfl c_133)) (fun c_133 => ?_)
        refine g_iconst (x := (nI 1)) O dL_isPlaySo_210 (by decide +kernel) ?_
        refine g_goto (tgt := 215) O dL_isPlaySo_211 (by decide) ?_
        refine g_istore (L' := [(0, .ref (a 0)), (1, .int (nI wv)), (2, .int (nI (sv_fk (p_s P) 0))), (3, .int (nI (smN (sv_g (p_s P)) 144))), (4, .int (sv_fl (p_s P))), (5, .int (sv_mu (p_s P))), (6, .int (nI (sv_ps (p_s P)))), (7, .int (laM (sv_la (p_s P)))), (8, .int (sv_sk (p_s P))), (9, .int (nI (gsN (p_s P) wv 144))), (10, .int (-5)), (11, .int (nI 1)), (12, .int (nI 1))]) O dL_isPlaySo_215 (by decide) [1, 2, 3, 4, 5, 6, 7, 8, 9, 10, 11, 12, 0] rfl ?_
        refine g_iload O dL_isPlaySo_217 12 rfl ?_
        refine g_if_eqN (tgt := 272) O (by omega) dL_isPlaySo_219 (by decide) (fun c_134 => absurd c_134 (by decide)) (fun c_134 => ?_)
        refine g_iload_n O dL_isPlaySo_222 1 rfl rfl ?_
        refine g_if_geN (tgt := 238) O (by omega) dL_isPlaySo_223 (by decide) ?_
        refine g_aload_n O dL_isPlaySo_238 0 rfl rfl ?_
        refine g_iload_n O dL_isPlaySo_239 1 rfl rfl ?_
        refine g_bipush (x := (nI 6)) O dL_isPlaySo_240 (by decide +kernel) ?_
        refine g_callW (As := [.int (nI wv), .int (nI 6)]) (Aw := wX D a (plP P) J_131) O (X_way_6 l D z a (plP P) wv J_131 hP1.1 hB (by first | omega | assumption)) gL_isPlaySo_X8_way rfl rfl rfl 2 (by decide +kernel) (by decide) (by decide) rfl rfl rfl rfl rfl (Nat.le_of_ble_eq_true rfl) dL_isPlaySo_242 (fun r9 w9 hp => ?_)
        obtain ⟨rfl, J_136, rfl⟩ := hp
        refine g_eq (st' := [.int (nI (gsN (p_s (plP P)) wv 144))]) (ws' := wX D a (plP P) J_136) rfl rfl rfl ?_
        refine g_iload O dL_isPlaySo_245 9 rfl ?_
        refine g_icmp_ltN (tgt := 272) O (by omega) (by omega) dL_isPlaySo_247 (by decide) (fun c_137 => (by omega)) (fun c_137 => ?_)
        refine g_aload_n O dL_isPlaySo_250 0 rfl rfl ?_
        refine g_iconst (x := (nI 0)) O dL_isPlaySo_251 (by decide +kernel) ?_
        refine g_callW (As := [.int (nI 0)]) (Aw := wX D a (plP P) J_136) O (X_count_0 l D z a (plP P) J_136 hP1.1 hB ) gL_isPlaySo_X8_count rfl rfl rfl 1 (by decide +kernel) (by decide) (by decide) rfl rfl rfl rfl rfl (Nat.le_of_ble_eq_true rfl) dL_isPlaySo_252 (fun r9 w9 hp => ?_)
        obtain ⟨rfl, J_138, rfl⟩ := hp
        refine g_eq (st' := [.int (nI (smN (sv_g (p_s (plP P))) 144))]) (ws' := wX D a (plP P) J_138) rfl rfl rfl ?_
        refine g_aload_n O dL_isPlaySo_255 0 rfl rfl ?_
        refine g_iconst (x := (nI 3)) O dL_isPlaySo_256 (by decide +kernel) ?_
        refine g_callW (As := [.int (nI 3)]) (Aw := wX D a (plP P) J_138) O (X_count_3 l D z a (plP P) J_138 hP1.1 hB ) gL_isPlaySo_X8_count rfl rfl rfl 1 (by decide +kernel) (by decide) (by decide) rfl rfl rfl rfl rfl (Nat.le_of_ble_eq_true rfl) dL_isPlaySo_257 (fun r9 w9 hp => ?_)
        obtain ⟨rfl, J_139, rfl⟩ := hp
        refine g_eq (st' := [.int (sv_fl (p_s (plP P))), .int (nI (smN (sv_g (p_s (plP P))) 144))]) (ws' := wX D a (plP P) J_139) rfl rfl rfl ?_
        refine g_iadd O dL_isPlaySo_260 ?_
        refine g_iload_n O dL_isPlaySo_261 3 rfl rfl ?_
        refine g_iload O dL_isPlaySo_262 4 rfl ?_
        refine g_iadd O dL_isPlaySo_264 ?_
        refine g_icmp_ne (tgt := 272) O dL_isPlaySo_265 (by decide) (fun c_140 => (by exact absurd (plP_keep P hwy) c_140)) (fun c_140 => ?_)
        refine g_iconst (x := (nI 1)) O dL_isPlaySo_268 (by decide +kernel) ?_
        refine g_goto (tgt := 273) O dL_isPlaySo_269 (by decide) ?_
        refine g_istore (L' := [(0, .ref (a 0)), (1, .int (nI wv)), (2, .int (nI (sv_fk (p_s P) 0))), (3, .int (nI (smN (sv_g (p_s P)) 144))), (4, .int (sv_fl (p_s P))), (5, .int (sv_mu (p_s P))), (6, .int (nI (sv_ps (p_s P)))), (7, .int (laM (sv_la (p_s P)))), (8, .int (sv_sk (p_s P))), (9, .int (nI (gsN (p_s P) wv 144))), (10, .int (-5)), (11, .int (nI 1)), (12, .int (nI 1))]) O dL_isPlaySo_273 (by decide) [1, 2, 3, 4, 5, 6, 7, 8, 9, 10, 11, 12, 0] rfl ?_
        refine g_aload_n O dL_isPlaySo_275 0 rfl rfl ?_
        refine g_callW (As := []) (Aw := wX D a (plP P) J_139) O (X_undo_1 l D z a (plP P) J_139 hP1.1 hB (plP_hd P)) gL_isPlaySo_X8_undo rfl rfl rfl 0 (by decide +kernel) (by decide) (by decide) rfl rfl rfl rfl rfl (Nat.le_of_ble_eq_true rfl) dL_isPlaySo_276 (fun r9 w9 hp => ?_)
        obtain ⟨rfl, J_141, rfl⟩ := hp
        refine g_eq (st' := [.int (nI (p_hd (plP P) - 1))]) (ws' := wX D a (unP (plP P)) J_141) rfl rfl rfl ?_
        refine g_istore (L' := [(0, .ref (a 0)), (1, .int (nI wv)), (2, .int (nI (sv_fk (p_s P) 0))), (3, .int (nI (smN (sv_g (p_s P)) 144))), (4, .int (sv_fl (p_s P))), (5, .int (sv_mu (p_s P))), (6, .int (nI (sv_ps (p_s P)))), (7, .int (laM (sv_la (p_s P)))), (8, .int (sv_sk (p_s P))), (9, .int (nI (gsN (p_s P) wv 144))), (10, .int (-5)), (11, .int (nI 1)), (12, .int (nI 1)), (13, .int (nI (p_hd (plP P) - 1)))]) O dL_isPlaySo_279 (by decide) [1, 2, 3, 4, 5, 6, 7, 8, 9, 10, 11, 12, 13, 0] rfl ?_
        refine g_iload O dL_isPlaySo_281 12 rfl ?_
        refine g_if_eqN (tgt := 314) O (by omega) dL_isPlaySo_283 (by decide) (fun c_142 => absurd c_142 (by decide)) (fun c_142 => ?_)
        refine g_iload O dL_isPlaySo_286 13 rfl ?_
        refine g_if_ltN (tgt := 314) O (by omega) dL_isPlaySo_288 (by decide) ?_
        refine g_aload_n O dL_isPlaySo_291 0 rfl rfl ?_
        refine g_iconst (x := (nI 0)) O dL_isPlaySo_292 (by decide +kernel) ?_
        refine g_callW (As := [.int (nI 0)]) (Aw := wX D a (unP (plP P)) J_141) O (X_count_0 l D z a (unP (plP P)) J_141 hP2.1 hB ) gL_isPlaySo_X8_count rfl rfl rfl 1 (by decide +kernel) (by decide) (by decide) rfl rfl rfl rfl rfl (Nat.le_of_ble_eq_true rfl) dL_isPlaySo_293 (fun r9 w9 hp => ?_)
        obtain ⟨rfl, J_144, rfl⟩ := hp
        refine g_eq (st' := [.int (nI (smN (sv_g (p_s (unP (plP P)))) 144))]) (ws' := wX D a (unP (plP P)) J_144) rfl rfl rfl ?_
        refine g_eq (st' := [.int (nI (smN (sv_g (p_s P)) 144))]) (by rw [unP_g hI.1]) rfl rfl ?_
        refine g_iload_n O dL_isPlaySo_296 3 rfl rfl ?_
        refine g_icmp_neN (tgt := 314) O (by omega) (by omega) dL_isPlaySo_297 (by decide) (fun c_145 => (by exact absurd rfl c_145)) (fun c_145 => ?_)
        refine g_aload_n O dL_isPlaySo_300 0 rfl rfl ?_
        refine g_iconst (x := (nI 5)) O dL_isPlaySo_301 (by decide +kernel) ?_
        refine g_callW (As := [.int (nI 5)]) (Aw := wX D a (unP (plP P)) J_144) O (X_count_5 l D z a (unP (plP P)) J_144 hP2.1 hB ) gL_isPlaySo_X8_count rfl rfl rfl 1 (by decide +kernel) (by decide) (by decide) rfl rfl rfl rfl rfl (Nat.le_of_ble_eq_true rfl) dL_isPlaySo_302 (fun r9 w9 hp => ?_)
        obtain ⟨rfl, J_146, rfl⟩ := hp
        refine g_eq (st' := [.int (nI (sv_ps (p_s (unP (plP P)))))]) (ws' := wX D a (unP (plP P)) J_146) rfl rfl rfl ?_
        refine g_eq (st' := [.int (nI (sv_ps (p_s P)))]) (by rw [unP_ps hI.1]) rfl rfl ?_
        refine g_iload O dL_isPlaySo_305 6 rfl ?_
        refine g_icmp_neN (tgt := 314) O (by omega) (by omega) dL_isPlaySo_307 (by decide) (fun c_147 => (by exact absurd rfl c_147)) (fun c_147 => ?_)
        refine g_iconst (x := (nI 1)) O dL_isPlaySo_310 (by decide +kernel) ?_
        refine g_goto (tgt := 315) O dL_isPlaySo_311 (by decide) ?_
        refine g_eq (st' := [.int (bB true)]) rfl rfl rfl ?_
        exact E 315 _ true _ dL_isPlaySo_315 ⟨unP (plP P), _, hP2, rfl, rfl⟩
