/-! the loop -/
set_option maxRecDepth 100000 in
set_option maxHeartbeats 4000000 in
/-- the law's loop -/
theorem law_loop {X : Fx} {l : Launch} {D : va_G} {z : Nat × Nat × Nat} (O : Ok X l D z cL_law RL wsL_law 5 room_1 false) {bb K : Nat} {xs : Nat → Int32} (S : SX X bb K xs) (hK : K ≤ 260) {a : Nat → Nat}
    (kend : ∀ (L : List (Nat × Value)) (ws : va_W), G X 78 2655 112 L [.int 1] ws) : ∀ (n e : Nat) (P : PS) (J : JS), IW (720 + 14256 * e) P → e ≤ 50 → 50 < e + n → G X 78 2655 10 [(0, .ref bb), (1, .ref (a 0)), (2, .int (nI e))] [] (wX D a P J) := by
  intro n
  induction n with
  | zero => intro e P J hI h1 h2; omega
  | succ n ih =>
    intro e P J hI h1 h2
    have hB : 720 + 14256 * e < 1073741824 := by omega
    have hB2 : 720 + 14256 * e + 14256 < 1073741824 := by omega
    refine g_iload_n O dL_law_10 2 rfl rfl ?_
    refine g_bipush (x := (nI 50)) O dL_law_11 (by decide +kernel) ?_
    refine g_icmp_geN (tgt := 111) O (by omega) (by omega) dL_law_13 (by decide) (fun c_1 => ?_) (fun c_1 => ?_)
    ·
      refine g_iconst (x := (nI 1)) O dL_law_111 (by decide +kernel) ?_
      exact kend _ _
    ·
      refine g_aload_n O dL_law_16 0 rfl rfl ?_
      refine g_iload_n O dL_law_17 2 rfl rfl ?_
      refine g_callX (As := [.ref bb, .int (nI e)]) O S (kL_cell l D z bb K xs e (by omega) (by omega)) gL_law_L_cell rfl rfl rfl 2 (by decide +kernel) (by decide) (by decide) rfl rfl (Nat.le_of_ble_eq_true rfl) dL_law_18 (fun x_2 hp_3 => ?_)
      obtain ⟨v_4, rfl⟩ := hp_3
      refine g_eq (st' := [.int v_4]) (rfl) rfl rfl ?_
      refine g_istore_n (L' := [(0, .ref bb), (1, .ref (a 0)), (2, .int (nI e)), (3, .int v_4)]) O dL_law_21 rfl (by decide) [1, 2, 3, 0] rfl ?_
      refine g_aload_n O dL_law_22 1 rfl rfl ?_
      refine g_iload_n O dL_law_23 3 rfl rfl ?_
      refine g_callWS (As := [.ref (a 0), .int v_4]) (Aw := wX D a P J) O (kL_does l D z a P v_4 J hI hB) gL_law_L_does rfl rfl rfl 2 (by decide +kernel) (by decide) (by decide) rfl rfl (Nat.le_of_ble_eq_true rfl) dL_law_24 (fun x_5 w_7 hp_6 => ?_)
      obtain ⟨ans_8, P_9, J_10, ha_11, hI_12, rfl, rfl⟩ := hp_6
      refine g_eq (st' := [.int ans_8]) (rfl) rfl rfl ?_
      refine g_istore (L' := [(0, .ref bb), (1, .ref (a 0)), (2, .int (nI e)), (3, .int v_4), (4, .int ans_8)]) O dL_law_27 (by decide) [1, 2, 3, 4, 0] rfl ?_
      refine g_iload O dL_law_29 4 rfl ?_
      refine g_bipush (x := (-5)) O dL_law_31 (by decide +kernel) ?_
      refine g_icmp_lt (tgt := 103) O dL_law_33 (by decide) (fun c_13 => (by exact absurd c_13 ha_11)) (fun c_13 => ?_)
      refine g_aload_n O dL_law_36 1 rfl rfl ?_
      refine g_callWS (As := [.ref (a 0)]) (Aw := wX D a P_9 J_10) O (kL_isSandSo l D z a P_9 J_10 hI_12 hB2) gL_law_L_isSandSo rfl rfl rfl 1 (by decide +kernel) (by decide) (by decide) rfl rfl (Nat.le_of_ble_eq_true rfl) dL_law_37 (fun x_14 w_16 hp_15 => ?_)
      obtain ⟨rfl, J_17, rfl⟩ := hp_15
      refine g_eq (st' := [.int (bB true)]) (rfl) rfl rfl ?_
      refine g_if_eqB (tgt := 103) O dL_law_40 (by decide) (fun c_18 => absurd c_18 (by decide)) (fun c_18 => ?_)
      refine g_iload_n O dL_law_43 2 rfl rfl ?_
      refine g_iconst (x := (nI 3)) O dL_law_44 (by decide +kernel) ?_
      refine g_iremN O (by omega) (by omega) (by omega) dL_law_45 ?_
      refine g_iconst (x := (nI 1)) O dL_law_46 (by decide +kernel) ?_
      refine g_icmp_neN (tgt := 73) O (by omega) (by omega) dL_law_47 (by decide) (fun c_19 => ?_) (fun c_19 => ?_)
      ·
        refine g_iload_n O dL_law_73 2 rfl rfl ?_
        refine g_iconst (x := (nI 2)) O dL_law_74 (by decide +kernel) ?_
        refine g_iremN O (by omega) (by omega) (by omega) dL_law_75 ?_
        refine g_iconst (x := (nI 1)) O dL_law_76 (by decide +kernel) ?_
        refine g_icmp_neN (tgt := 87) O (by omega) (by omega) dL_law_77 (by decide) (fun c_20 => ?_) (fun c_20 => ?_)
        ·
          refine g_iload_n O dL_law_87 2 rfl rfl ?_
          refine g_bipush (x := (nI 24)) O dL_law_88 (by decide +kernel) ?_
          refine g_iremN O (by omega) (by omega) (by omega) dL_law_90 ?_
          refine g_bipush (x := (nI 11)) O dL_law_91 (by decide +kernel) ?_
          refine g_icmp_neN (tgt := 105) O (by omega) (by omega) dL_law_93 (by decide) (fun c_21 => ?_) (fun c_21 => ?_)
          ·
            refine g_iincN (L' := [(0, .ref bb), (1, .ref (a 0)), (2, .int (nI (e + 1))), (3, .int v_4), (4, .int ans_8)]) O dL_law_105 2 rfl (by decide) [1, 2, 0, 3, 4] rfl ?_
            refine g_goto (tgt := 10) O dL_law_108 (by decide) ?_
            refine g_locals (L' := [(0, .ref bb), (1, .ref (a 0)), (2, .int (nI (e + 1)))]) [0, 1, 2] rfl ?_
            exact ih (e + 1) P_9 J_17 (by rw [show 720 + 14256 * (e + 1) = 720 + 14256 * e + 14256 by omega]; exact hI_12) (by omega) (by omega)
          ·
            refine g_aload_n O dL_law_96 1 rfl rfl ?_
            refine g_callWS (As := [.ref (a 0)]) (Aw := wX D a P_9 J_17) O (kL_areWaysSo l D z a P_9 J_17 hI_12 hB2) gL_law_L_areWaysSo rfl rfl rfl 1 (by decide +kernel) (by decide) (by decide) rfl rfl (Nat.le_of_ble_eq_true rfl) dL_law_97 (fun x_22 w_24 hp_23 => ?_)
            obtain ⟨rfl, J_25, rfl⟩ := hp_23
            refine g_eq (st' := [.int (bB true)]) (rfl) rfl rfl ?_
            refine g_if_neB (tgt := 105) O dL_law_100 (by decide) (fun c_26 => ?_) (fun c_26 => absurd c_26 (by decide))
            refine g_iincN (L' := [(0, .ref bb), (1, .ref (a 0)), (2, .int (nI (e + 1))), (3, .int v_4), (4, .int ans_8)]) O dL_law_105 2 rfl (by decide) [1, 2, 0, 3, 4] rfl ?_
            refine g_goto (tgt := 10) O dL_law_108 (by decide) ?_
            refine g_locals (L' := [(0, .ref bb), (1, .ref (a 0)), (2, .int (nI (e + 1)))]) [0, 1, 2] rfl ?_
            exact ih (e + 1) P_9 J_25 (by rw [show 720 + 14256 * (e + 1) = 720 + 14256 * e + 14256 by omega]; exact hI_12) (by omega) (by omega)
        ·
          refine g_aload_n O dL_law_80 1 rfl rfl ?_
          refine g_callWS (As := [.ref (a 0)]) (Aw := wX D a P_9 J_17) O (kL_isPlaySo l D z a P_9 J_17 hI_12 hB2) gL_law_L_isPlaySo rfl rfl rfl 1 (by decide +kernel) (by decide) (by decide) rfl rfl (Nat.le_of_ble_eq_true rfl) dL_law_81 (fun x_27 w_29 hp_28 => ?_)
          obtain ⟨P_30, J_31, hI_32, rfl, rfl⟩ := hp_28
          refine g_eq (st' := [.int (bB true)]) (rfl) rfl rfl ?_
          refine g_if_eqB (tgt := 103) O dL_law_84 (by decide) (fun c_33 => absurd c_33 (by decide)) (fun c_33 => ?_)
          refine g_iload_n O dL_law_87 2 rfl rfl ?_
          refine g_bipush (x := (nI 24)) O dL_law_88 (by decide +kernel) ?_
          refine g_iremN O (by omega) (by omega) (by omega) dL_law_90 ?_
          refine g_bipush (x := (nI 11)) O dL_law_91 (by decide +kernel) ?_
          refine g_icmp_neN (tgt := 105) O (by omega) (by omega) dL_law_93 (by decide) (fun c_34 => ?_) (fun c_34 => ?_)
          ·
            refine g_iincN (L' := [(0, .ref bb), (1, .ref (a 0)), (2, .int (nI (e + 1))), (3, .int v_4), (4, .int ans_8)]) O dL_law_105 2 rfl (by decide) [1, 2, 0, 3, 4] rfl ?_
            refine g_goto (tgt := 10) O dL_law_108 (by decide) ?_
            refine g_locals (L' := [(0, .ref bb), (1, .ref (a 0)), (2, .int (nI (e + 1)))]) [0, 1, 2] rfl ?_
            exact ih (e + 1) P_30 J_31 (by rw [show 720 + 14256 * (e + 1) = 720 + 14256 * e + 14256 by omega]; exact hI_32) (by omega) (by omega)
          ·
            refine g_aload_n O dL_law_96 1 rfl rfl ?_
            refine g_callWS (As := [.ref (a 0)]) (Aw := wX D a P_30 J_31) O (kL_areWaysSo l D z a P_30 J_31 hI_32 hB2) gL_law_L_areWaysSo rfl rfl rfl 1 (by decide +kernel) (by decide) (by decide) rfl rfl (Nat.le_of_ble_eq_true rfl) dL_law_97 (fun x_35 w_37 hp_36 => ?_)
            obtain ⟨rfl, J_38, rfl⟩ := hp_36
            refine g_eq (st' := [.int (bB true)]) (rfl) rfl rfl ?_
            refine g_if_neB (tgt := 105) O dL_law_100 (by decide) (fun c_39 => ?_) (fun c_39 => absurd c_39 (by decide))
            refine g_iincN (L' := [(0, .ref bb), (1, .ref (a 0)), (2, .int (nI (e + 1))), (3, .int v_4), (4, .int ans_8)]) O dL_law_105 2 rfl (by decide) [1, 2, 0, 3, 4] rfl ?_
            refine g_goto (tgt := 10) O dL_law_108 (by decide) ?_
            refine g_locals (L' := [(0, .ref bb), (1, .ref (a 0)), (2, .int (nI (e + 1)))]) [0, 1, 2] rfl ?_
            exact ih (e + 1) P_30 J_38 (by rw [show 720 + 14256 * (e + 1) = 720 + 14256 * e + 14256 by omega]; exact hI_32) (by omega) (by omega)
      ·
        refine g_aload_n O dL_law_50 1 rfl rfl ?_
        refine g_iload_n O dL_law_51 3 rfl rfl ?_
        refine g_iconst (x := (nI 5)) O dL_law_52 (by decide +kernel) ?_
        refine g_ishr O dL_law_53 ?_
        generalize v_4 >>> ((nI 5) &&& 31) = v_40
        refine g_iconst (x := (nI 4)) O dL_law_54 (by decide +kernel) ?_
        refine g_callN (As := [.int v_40, .int (nI 4)]) O (kL_low l D z v_40 4 (by decide) (by decide)) gL_law_L_low rfl rfl rfl 2 (by decide +kernel) (by decide) (by decide) rfl rfl (Nat.le_of_ble_eq_true rfl) dL_law_55 (fun x_41 hp_42 => ?_)
        obtain ⟨j_43, hj_44, rfl⟩ := hp_42
        refine g_eq (st' := [.int (nI j_43), .ref (a 0)]) (rfl) rfl rfl ?_
        refine g_iload_n O dL_law_58 3 rfl rfl ?_
        refine g_bipush (x := (nI 7)) O dL_law_59 (by decide +kernel) ?_
        refine g_ishr O dL_law_61 ?_
        generalize v_4 >>> ((nI 7) &&& 31) = v_45
        refine g_bipush (x := (nI 12)) O dL_law_62 (by decide +kernel) ?_
        refine g_callN (As := [.int v_45, .int (nI 12)]) O (kL_low l D z v_45 12 (by decide) (by decide)) gL_law_L_low rfl rfl rfl 2 (by decide +kernel) (by decide) (by decide) rfl rfl (Nat.le_of_ble_eq_true rfl) dL_law_64 (fun x_46 hp_47 => ?_)
        obtain ⟨j_48, hj_49, rfl⟩ := hp_47
        refine g_eq (st' := [.int (nI j_48), .int (nI j_43), .ref (a 0)]) (rfl) rfl rfl ?_
        refine g_callWS (As := [.ref (a 0), .int (nI j_43), .int (nI j_48)]) (Aw := wX D a P_9 J_17) O (kL_isBowSo l D z a P_9 J_17 j_43 j_48 hj_44 hj_49 hI_12 hB2) gL_law_L_isBowSo rfl rfl rfl 3 (by decide +kernel) (by decide) (by decide) rfl rfl (Nat.le_of_ble_eq_true rfl) dL_law_67 (fun x_50 w_52 hp_51 => ?_)
        obtain ⟨rfl, J_53, rfl⟩ := hp_51
        refine g_eq (st' := [.int (bB true)]) (rfl) rfl rfl ?_
        refine g_if_eqB (tgt := 103) O dL_law_70 (by decide) (fun c_54 => absurd c_54 (by decide)) (fun c_54 => ?_)
        refine g_iload_n O dL_law_73 2 rfl rfl ?_
        refine g_iconst (x := (nI 2)) O dL_law_74 (by decide +kernel) ?_
        refine g_iremN O (by omega) (by omega) (by omega) dL_law_75 ?_
        refine g_iconst (x := (nI 1)) O dL_law_76 (by decide +kernel) ?_
        refine g_icmp_neN (tgt := 87) O (by omega) (by omega) dL_law_77 (by decide) (fun c_55 => ?_) (fun c_55 => ?_)
        ·
          refine g_iload_n O dL_law_87 2 rfl rfl ?_
          refine g_bipush (x := (nI 24)) O dL_law_88 (by decide +kernel) ?_
          refine g_iremN O (by omega) (by omega) (by omega) dL_law_90 ?_
          refine g_bipush (x := (nI 11)) O dL_law_91 (by decide +kernel) ?_
          refine g_icmp_neN (tgt := 105) O (by omega) (by omega) dL_law_93 (by decide) (fun c_56 => ?_) (fun c_56 => ?_)
          ·
            refine g_iincN (L' := [(0, .ref bb), (1, .ref (a 0)), (2, .int (nI (e + 1))), (3, .int v_4), (4, .int ans_8)]) O dL_law_105 2 rfl (by decide) [1, 2, 0, 3, 4] rfl ?_
            refine g_goto (tgt := 10) O dL_law_108 (by decide) ?_
            refine g_locals (L' := [(0, .ref bb), (1, .ref (a 0)), (2, .int (nI (e + 1)))]) [0, 1, 2] rfl ?_
            exact ih (e + 1) P_9 J_53 (by rw [show 720 + 14256 * (e + 1) = 720 + 14256 * e + 14256 by omega]; exact hI_12) (by omega) (by omega)
          ·
            refine g_aload_n O dL_law_96 1 rfl rfl ?_
            refine g_callWS (As := [.ref (a 0)]) (Aw := wX D a P_9 J_53) O (kL_areWaysSo l D z a P_9 J_53 hI_12 hB2) gL_law_L_areWaysSo rfl rfl rfl 1 (by decide +kernel) (by decide) (by decide) rfl rfl (Nat.le_of_ble_eq_true rfl) dL_law_97 (fun x_57 w_59 hp_58 => ?_)
            obtain ⟨rfl, J_60, rfl⟩ := hp_58
            refine g_eq (st' := [.int (bB true)]) (rfl) rfl rfl ?_
            refine g_if_neB (tgt := 105) O dL_law_100 (by decide) (fun c_61 => ?_) (fun c_61 => absurd c_61 (by decide))
            refine g_iincN (L' := [(0, .ref bb), (1, .ref (a 0)), (2, .int (nI (e + 1))), (3, .int v_4), (4, .int ans_8)]) O dL_law_105 2 rfl (by decide) [1, 2, 0, 3, 4] rfl ?_
            refine g_goto (tgt := 10) O dL_law_108 (by decide) ?_
            refine g_locals (L' := [(0, .ref bb), (1, .ref (a 0)), (2, .int (nI (e + 1)))]) [0, 1, 2] rfl ?_
            exact ih (e + 1) P_9 J_60 (by rw [show 720 + 14256 * (e + 1) = 720 + 14256 * e + 14256 by omega]; exact hI_12) (by omega) (by omega)
        ·
          refine g_aload_n O dL_law_80 1 rfl rfl ?_
          refine g_callWS (As := [.ref (a 0)]) (Aw := wX D a P_9 J_53) O (kL_isPlaySo l D z a P_9 J_53 hI_12 hB2) gL_law_L_isPlaySo rfl rfl rfl 1 (by decide +kernel) (by decide) (by decide) rfl rfl (Nat.le_of_ble_eq_true rfl) dL_law_81 (fun x_62 w_64 hp_63 => ?_)
          obtain ⟨P_65, J_66, hI_67, rfl, rfl⟩ := hp_63
          refine g_eq (st' := [.int (bB true)]) (rfl) rfl rfl ?_
          refine g_if_eqB (tgt := 103) O dL_law_84 (by decide) (fun c_68 => absurd c_68 (by decide)) (fun c_68 => ?_)
          refine g_iload_n O dL_law_87 2 rfl rfl ?_
          refine g_bipush (x := (nI 24)) O dL_law_88 (by decide +kernel) ?_
          refine g_iremN O (by omega) (by omega) (by omega) dL_law_90 ?_
          refine g_bipush (x := (nI 11)) O dL_law_91 (by decide +kernel) ?_
          refine g_icmp_neN (tgt := 105) O (by omega) (by omega) dL_law_93 (by decide) (fun c_69 => ?_) (fun c_69 => ?_)
          ·
            refine g_iincN (L' := [(0, .ref bb), (1, .ref (a 0)), (2, .int (nI (e + 1))), (3, .int v_4), (4, .int ans_8)]) O dL_law_105 2 rfl (by decide) [1, 2, 0, 3, 4] rfl ?_
            refine g_goto (tgt := 10) O dL_law_108 (by decide) ?_
            refine g_locals (L' := [(0, .ref bb), (1, .ref (a 0)), (2, .int (nI (e + 1)))]) [0, 1, 2] rfl ?_
            exact ih (e + 1) P_65 J_66 (by rw [show 720 + 14256 * (e + 1) = 720 + 14256 * e + 14256 by omega]; exact hI_67) (by omega) (by omega)
          ·
            refine g_aload_n O dL_law_96 1 rfl rfl ?_
            refine g_callWS (As := [.ref (a 0)]) (Aw := wX D a P_65 J_66) O (kL_areWaysSo l D z a P_65 J_66 hI_67 hB2) gL_law_L_areWaysSo rfl rfl rfl 1 (by decide +kernel) (by decide) (by decide) rfl rfl (Nat.le_of_ble_eq_true rfl) dL_law_97 (fun x_70 w_72 hp_71 => ?_)
            obtain ⟨rfl, J_73, rfl⟩ := hp_71
            refine g_eq (st' := [.int (bB true)]) (rfl) rfl rfl ?_
            refine g_if_neB (tgt := 105) O dL_law_100 (by decide) (fun c_74 => ?_) (fun c_74 => absurd c_74 (by decide))
            refine g_iincN (L' := [(0, .ref bb), (1, .ref (a 0)), (2, .int (nI (e + 1))), (3, .int v_4), (4, .int ans_8)]) O dL_law_105 2 rfl (by decide) [1, 2, 0, 3, 4] rfl ?_
            refine g_goto (tgt := 10) O dL_law_108 (by decide) ?_
            refine g_locals (L' := [(0, .ref bb), (1, .ref (a 0)), (2, .int (nI (e + 1)))]) [0, 1, 2] rfl ?_
            exact ih (e + 1) P_65 J_73 (by rw [show 720 + 14256 * (e + 1) = 720 + 14256 * e + 14256 by omega]; exact hI_67) (by omega) (by omega)
