/-! does -/
theorem set_ok {w j lo hi : Nat} (hL : zL w = nI lo) (hM : zM w = nI hi) (h1 : lo ≤ j) (h2 : j ≤ hi) (h3 : hi < 2147483648) : ¬ nI j < 0 ∧ ¬ nI j < zL w ∧ nI j ≤ zM w := by
  rw [hL, hM]
  exact ⟨nI_pos (by omega), nI_nlt h1 (by omega), nI_le h2 h3⟩
set_option maxHeartbeats 4000000 in
set_option maxRecDepth 100000 in
theorem kL_does (l : Launch) (D : va_G) (z : Nat × Nat × Nat) (a : Nat → Nat) (P : PS) (v : Int32) (J : JS) {Bd : Nat} (hI : IW Bd P) (hB : Bd < 1073741824) : CM l yL_does wsL_does ({ frames := 7, cells := 0, slots := 0, locals := 164 } : Room) D z [.ref (a 0), .int v] (wX D a P J) (fun r w => ∃ (ans : Int32) (P' : PS) (J' : JS), ¬ ans < -5 ∧ IW (Bd + 14256) P' ∧ r = some (.int ans) ∧ w = wX D a P' J') 0 0 := by
  refine CM_int (own := RL) (cc := cL_does) (maxL := 3) (L0 := [(0, .ref (a 0)), (1, .int v)]) (by decide) rfl rfl (Nat.le_of_ble_eq_true rfl) rfl (fun X O E => ?_)
  have hok := hI.1.1
  have hnc := hok.1
  refine g_iload_n O dL_does_0 1 rfl rfl ?_
  refine g_bipush (x := (nI 15)) O dL_does_1 (by decide +kernel) ?_
  refine g_iand O dL_does_3 ?_
  obtain ⟨q, hq, hqe⟩ := pk_andE v (m := nI 15) 4 (by decide +kernel)
  refine g_eq (st' := [.int (nI q)]) (by rw [hqe]) rfl rfl ?_
  by_cases hq12 : q < 12
  · rcases (show q = 0 ∨ q = 1 ∨ q = 2 ∨ q = 3 ∨ q = 4 ∨ q = 5 ∨ q = 6 ∨ q = 7 ∨ q = 8 ∨ q = 9 ∨ q = 10 ∨ q = 11 by omega) with rfl | rfl | rfl | rfl | rfl | rfl | rfl | rfl | rfl | rfl | rfl | rfl
    ·
      refine g_tableIn (off := 64) (tgt := 68) O dL_does_4 (by decide +kernel) (by decide +kernel) (by decide +kernel) (by decide) ?_
      refine g_aload_n O dL_does_68 0 rfl rfl ?_
      refine g_iload_n O dL_does_69 1 rfl rfl ?_
      refine g_iconst (x := (nI 4)) O dL_does_70 (by decide +kernel) ?_
      refine g_ishr O dL_does_71 ?_
      generalize v >>> ((nI 4) &&& 31) = v_1
      refine g_bipush (x := (nI 12)) O dL_does_72 (by decide +kernel) ?_
      refine g_callN (As := [.int v_1, .int (nI 12)]) O (kL_low l D z v_1 12 (by decide) (by decide)) gL_does_L_low rfl rfl rfl 2 (by decide +kernel) (by decide) (by decide) rfl rfl (Nat.le_of_ble_eq_true rfl) dL_does_74 (fun x_2 hp_3 => ?_)
      obtain ⟨j_4, hj_5, rfl⟩ := hp_3
      refine g_eq (st' := [.int (nI j_4), .ref (a 0)]) (rfl) rfl rfl ?_
      refine g_iload_n O dL_does_77 1 rfl rfl ?_
      refine g_bipush (x := (nI 8)) O dL_does_78 (by decide +kernel) ?_
      refine g_ishr O dL_does_80 ?_
      generalize v >>> ((nI 8) &&& 31) = v_6
      refine g_bipush (x := (nI 12)) O dL_does_81 (by decide +kernel) ?_
      refine g_callN (As := [.int v_6, .int (nI 12)]) O (kL_low l D z v_6 12 (by decide) (by decide)) gL_does_L_low rfl rfl rfl 2 (by decide +kernel) (by decide) (by decide) rfl rfl (Nat.le_of_ble_eq_true rfl) dL_does_83 (fun x_7 hp_8 => ?_)
      obtain ⟨j_9, hj_10, rfl⟩ := hp_8
      refine g_eq (st' := [.int (nI j_9), .int (nI j_4), .ref (a 0)]) (rfl) rfl rfl ?_
      refine g_iconst (x := (nI 1)) O dL_does_86 (by decide +kernel) ?_
      refine g_iload_n O dL_does_87 1 rfl rfl ?_
      refine g_bipush (x := (nI 12)) O dL_does_88 (by decide +kernel) ?_
      refine g_ishr O dL_does_90 ?_
      generalize v >>> ((nI 12) &&& 31) = v_11
      refine g_bipush (x := (nI 60)) O dL_does_91 (by decide +kernel) ?_
      refine g_callN (As := [.int v_11, .int (nI 60)]) O (kL_low l D z v_11 60 (by decide) (by decide)) gL_does_L_low rfl rfl rfl 2 (by decide +kernel) (by decide) (by decide) rfl rfl (Nat.le_of_ble_eq_true rfl) dL_does_93 (fun x_12 hp_13 => ?_)
      obtain ⟨j_14, hj_15, rfl⟩ := hp_13
      refine g_eq (st' := [.int (nI j_14), .int (nI 1), .int (nI j_9), .int (nI j_4), .ref (a 0)]) (rfl) rfl rfl ?_
      refine g_iaddN O dL_does_96 ?_
      obtain ⟨ans_16, P_17, ha_18, hI_19, hX_20⟩ := S_strew l D z hI hB (x := j_4) (y := j_9) (k := (1 + j_14)) (by omega) (by omega) (by omega) (by omega)
      refine g_callW (As := [.int (nI j_4), .int (nI j_9), .int (nI (1 + j_14))]) (Aw := wX D a P J) O (hX_20 a J) gL_does_X8_strew rfl rfl rfl 3 (by decide +kernel) (by decide) (by decide) rfl rfl rfl rfl rfl (Nat.le_of_ble_eq_true rfl) dL_does_97 (fun r9 w9 hp => ?_)
      obtain ⟨rfl, J_21, rfl⟩ := hp
      refine g_eq (st' := [.int ans_16]) (ws' := wX D a P_17 J_21) rfl rfl rfl ?_
      exact E 100 _ ans_16 _ dL_does_100 ⟨_, _, _, ha_18, hI_19, rfl, rfl⟩
    ·
      refine g_tableIn (off := 64) (tgt := 68) O dL_does_4 (by decide +kernel) (by decide +kernel) (by decide +kernel) (by decide) ?_
      refine g_aload_n O dL_does_68 0 rfl rfl ?_
      refine g_iload_n O dL_does_69 1 rfl rfl ?_
      refine g_iconst (x := (nI 4)) O dL_does_70 (by decide +kernel) ?_
      refine g_ishr O dL_does_71 ?_
      generalize v >>> ((nI 4) &&& 31) = v_22
      refine g_bipush (x := (nI 12)) O dL_does_72 (by decide +kernel) ?_
      refine g_callN (As := [.int v_22, .int (nI 12)]) O (kL_low l D z v_22 12 (by decide) (by decide)) gL_does_L_low rfl rfl rfl 2 (by decide +kernel) (by decide) (by decide) rfl rfl (Nat.le_of_ble_eq_true rfl) dL_does_74 (fun x_23 hp_24 => ?_)
      obtain ⟨j_25, hj_26, rfl⟩ := hp_24
      refine g_eq (st' := [.int (nI j_25), .ref (a 0)]) (rfl) rfl rfl ?_
      refine g_iload_n O dL_does_77 1 rfl rfl ?_
      refine g_bipush (x := (nI 8)) O dL_does_78 (by decide +kernel) ?_
      refine g_ishr O dL_does_80 ?_
      generalize v >>> ((nI 8) &&& 31) = v_27
      refine g_bipush (x := (nI 12)) O dL_does_81 (by decide +kernel) ?_
      refine g_callN (As := [.int v_27, .int (nI 12)]) O (kL_low l D z v_27 12 (by decide) (by decide)) gL_does_L_low rfl rfl rfl 2 (by decide +kernel) (by decide) (by decide) rfl rfl (Nat.le_of_ble_eq_true rfl) dL_does_83 (fun x_28 hp_29 => ?_)
      obtain ⟨j_30, hj_31, rfl⟩ := hp_29
      refine g_eq (st' := [.int (nI j_30), .int (nI j_25), .ref (a 0)]) (rfl) rfl rfl ?_
      refine g_iconst (x := (nI 1)) O dL_does_86 (by decide +kernel) ?_
      refine g_iload_n O dL_does_87 1 rfl rfl ?_
      refine g_bipush (x := (nI 12)) O dL_does_88 (by decide +kernel) ?_
      refine g_ishr O dL_does_90 ?_
      generalize v >>> ((nI 12) &&& 31) = v_32
      refine g_bipush (x := (nI 60)) O dL_does_91 (by decide +kernel) ?_
      refine g_callN (As := [.int v_32, .int (nI 60)]) O (kL_low l D z v_32 60 (by decide) (by decide)) gL_does_L_low rfl rfl rfl 2 (by decide +kernel) (by decide) (by decide) rfl rfl (Nat.le_of_ble_eq_true rfl) dL_does_93 (fun x_33 hp_34 => ?_)
      obtain ⟨j_35, hj_36, rfl⟩ := hp_34
      refine g_eq (st' := [.int (nI j_35), .int (nI 1), .int (nI j_30), .int (nI j_25), .ref (a 0)]) (rfl) rfl rfl ?_
      refine g_iaddN O dL_does_96 ?_
      obtain ⟨ans_37, P_38, ha_39, hI_40, hX_41⟩ := S_strew l D z hI hB (x := j_25) (y := j_30) (k := (1 + j_35)) (by omega) (by omega) (by omega) (by omega)
      refine g_callW (As := [.int (nI j_25), .int (nI j_30), .int (nI (1 + j_35))]) (Aw := wX D a P J) O (hX_41 a J) gL_does_X8_strew rfl rfl rfl 3 (by decide +kernel) (by decide) (by decide) rfl rfl rfl rfl rfl (Nat.le_of_ble_eq_true rfl) dL_does_97 (fun r9 w9 hp => ?_)
      obtain ⟨rfl, J_42, rfl⟩ := hp
      refine g_eq (st' := [.int ans_37]) (ws' := wX D a P_38 J_42) rfl rfl rfl ?_
      exact E 100 _ ans_37 _ dL_does_100 ⟨_, _, _, ha_39, hI_40, rfl, rfl⟩
    ·
      refine g_tableIn (off := 97) (tgt := 101) O dL_does_4 (by decide +kernel) (by decide +kernel) (by decide +kernel) (by decide) ?_
      refine g_iload_n O dL_does_101 1 rfl rfl ?_
      refine g_iconst (x := (nI 4)) O dL_does_102 (by decide +kernel) ?_
      refine g_ishr O dL_does_103 ?_
      generalize v >>> ((nI 4) &&& 31) = v_43
      refine g_bipush (x := (nI 7)) O dL_does_104 (by decide +kernel) ?_
      refine g_iand O dL_does_106 ?_
      refine g_if_ne (tgt := 126) O dL_does_107 (by decide) (fun c_44 => ?_) (fun c_44 => ?_)
      ·
        refine g_aload_n O dL_does_126 0 rfl rfl ?_
        refine g_iconst (x := (nI 0)) O dL_does_127 (by decide +kernel) ?_
        refine g_iload_n O dL_does_128 1 rfl rfl ?_
        refine g_bipush (x := (nI 7)) O dL_does_129 (by decide +kernel) ?_
        refine g_ishr O dL_does_131 ?_
        generalize v >>> ((nI 7) &&& 31) = v_45
        refine g_bipush (x := (nI 12)) O dL_does_132 (by decide +kernel) ?_
        refine g_callN (As := [.int v_45, .int (nI 12)]) O (kL_low l D z v_45 12 (by decide) (by decide)) gL_does_L_low rfl rfl rfl 2 (by decide +kernel) (by decide) (by decide) rfl rfl (Nat.le_of_ble_eq_true rfl) dL_does_134 (fun x_46 hp_47 => ?_)
        obtain ⟨j_48, hj_49, rfl⟩ := hp_47
        refine g_eq (st' := [.int (nI j_48), .int (nI 0), .ref (a 0)]) (rfl) rfl rfl ?_
        refine g_bipush (x := (nI 9)) O dL_does_137 (by decide +kernel) ?_
        obtain ⟨ans_50, P_51, ha_52, hI_53, hX_54⟩ := S_strew l D z hI hB (x := 0) (y := j_48) (k := 9) (by omega) (by omega) (by omega) (by omega)
        refine g_callW (As := [.int (nI 0), .int (nI j_48), .int (nI 9)]) (Aw := wX D a P J) O (hX_54 a J) gL_does_X8_strew rfl rfl rfl 3 (by decide +kernel) (by decide) (by decide) rfl rfl rfl rfl rfl (Nat.le_of_ble_eq_true rfl) dL_does_139 (fun r9 w9 hp => ?_)
        obtain ⟨rfl, J_55, rfl⟩ := hp
        refine g_eq (st' := [.int ans_50]) (ws' := wX D a P_51 J_55) rfl rfl rfl ?_
        exact E 142 _ ans_50 _ dL_does_142 ⟨_, _, _, ha_52, hI_53, rfl, rfl⟩
      ·
        refine g_aload_n O dL_does_110 0 rfl rfl ?_
        refine g_iload_n O dL_does_111 1 rfl rfl ?_
        refine g_bipush (x := (nI 7)) O dL_does_112 (by decide +kernel) ?_
        refine g_ishr O dL_does_114 ?_
        generalize v >>> ((nI 7) &&& 31) = v_56
        refine g_bipush (x := (nI 12)) O dL_does_115 (by decide +kernel) ?_
        refine g_callN (As := [.int v_56, .int (nI 12)]) O (kL_low l D z v_56 12 (by decide) (by decide)) gL_does_L_low rfl rfl rfl 2 (by decide +kernel) (by decide) (by decide) rfl rfl (Nat.le_of_ble_eq_true rfl) dL_does_117 (fun x_57 hp_58 => ?_)
        obtain ⟨j_59, hj_60, rfl⟩ := hp_58
        refine g_eq (st' := [.int (nI j_59), .ref (a 0)]) (rfl) rfl rfl ?_
        obtain ⟨ans_61, P_62, ha_63, hI_64, hX_65⟩ := S_sweep l D z hI hB (k := j_59) (by omega)
        refine g_callW (As := [.int (nI j_59)]) (Aw := wX D a P J) O (hX_65 a J) gL_does_X8_sweep rfl rfl rfl 1 (by decide +kernel) (by decide) (by decide) rfl rfl rfl rfl rfl (Nat.le_of_ble_eq_true rfl) dL_does_120 (fun r9 w9 hp => ?_)
        obtain ⟨rfl, J_66, rfl⟩ := hp
        refine g_eq (st' := [.int ans_61]) (ws' := wX D a P_62 J_66) rfl rfl rfl ?_
        refine g_goto (tgt := 142) O dL_does_123 (by decide) ?_
        exact E 142 _ ans_61 _ dL_does_142 ⟨_, _, _, ha_63, hI_64, rfl, rfl⟩
    ·
      refine g_tableIn (off := 139) (tgt := 143) O dL_does_4 (by decide +kernel) (by decide +kernel) (by decide +kernel) (by decide) ?_
      refine g_aload_n O dL_does_143 0 rfl rfl ?_
      refine g_iload_n O dL_does_144 1 rfl rfl ?_
      refine g_iconst (x := (nI 4)) O dL_does_145 (by decide +kernel) ?_
      refine g_ishr O dL_does_146 ?_
      generalize v >>> ((nI 4) &&& 31) = v_67
      refine g_bipush (x := (nI 12)) O dL_does_147 (by decide +kernel) ?_
      refine g_callN (As := [.int v_67, .int (nI 12)]) O (kL_low l D z v_67 12 (by decide) (by decide)) gL_does_L_low rfl rfl rfl 2 (by decide +kernel) (by decide) (by decide) rfl rfl (Nat.le_of_ble_eq_true rfl) dL_does_149 (fun x_68 hp_69 => ?_)
      obtain ⟨j_70, hj_71, rfl⟩ := hp_69
      refine g_eq (st' := [.int (nI j_70), .ref (a 0)]) (rfl) rfl rfl ?_
      refine g_iload_n O dL_does_152 1 rfl rfl ?_
      refine g_bipush (x := (nI 8)) O dL_does_153 (by decide +kernel) ?_
      refine g_ishr O dL_does_155 ?_
      generalize v >>> ((nI 8) &&& 31) = v_72
      refine g_bipush (x := (nI 12)) O dL_does_156 (by decide +kernel) ?_
      refine g_callN (As := [.int v_72, .int (nI 12)]) O (kL_low l D z v_72 12 (by decide) (by decide)) gL_does_L_low rfl rfl rfl 2 (by decide +kernel) (by decide) (by decide) rfl rfl (Nat.le_of_ble_eq_true rfl) dL_does_158 (fun x_73 hp_74 => ?_)
      obtain ⟨j_75, hj_76, rfl⟩ := hp_74
      refine g_eq (st' := [.int (nI j_75), .int (nI j_70), .ref (a 0)]) (rfl) rfl rfl ?_
      obtain ⟨ans_77, P_78, ha_79, hI_80, hX_81⟩ := S_clamp l D z hI hB (x := j_70) (y := j_75) (by omega) (by omega)
      refine g_callW (As := [.int (nI j_70), .int (nI j_75)]) (Aw := wX D a P J) O (hX_81 a J) gL_does_X8_clamp rfl rfl rfl 2 (by decide +kernel) (by decide) (by decide) rfl rfl rfl rfl rfl (Nat.le_of_ble_eq_true rfl) dL_does_161 (fun r9 w9 hp => ?_)
      obtain ⟨rfl, J_82, rfl⟩ := hp
      refine g_eq (st' := [.int ans_77]) (ws' := wX D a P_78 J_82) rfl rfl rfl ?_
      exact E 164 _ ans_77 _ dL_does_164 ⟨_, _, _, ha_79, hI_80, rfl, rfl⟩
    ·
      refine g_tableIn (off := 139) (tgt := 143) O dL_does_4 (by decide +kernel) (by decide +kernel) (by decide +kernel) (by decide) ?_
      refine g_aload_n O dL_does_143 0 rfl rfl ?_
      refine g_iload_n O dL_does_144 1 rfl rfl ?_
      refine g_iconst (x := (nI 4)) O dL_does_145 (by decide +kernel) ?_
      refine g_ishr O dL_does_146 ?_
      generalize v >>> ((nI 4) &&& 31) = v_83
      refine g_bipush (x := (nI 12)) O dL_does_147 (by decide +kernel) ?_
      refine g_callN (As := [.int v_83, .int (nI 12)]) O (kL_low l D z v_83 12 (by decide) (by decide)) gL_does_L_low rfl rfl rfl 2 (by decide +kernel) (by decide) (by decide) rfl rfl (Nat.le_of_ble_eq_true rfl) dL_does_149 (fun x_84 hp_85 => ?_)
      obtain ⟨j_86, hj_87, rfl⟩ := hp_85
      refine g_eq (st' := [.int (nI j_86), .ref (a 0)]) (rfl) rfl rfl ?_
      refine g_iload_n O dL_does_152 1 rfl rfl ?_
      refine g_bipush (x := (nI 8)) O dL_does_153 (by decide +kernel) ?_
      refine g_ishr O dL_does_155 ?_
      generalize v >>> ((nI 8) &&& 31) = v_88
      refine g_bipush (x := (nI 12)) O dL_does_156 (by decide +kernel) ?_
      refine g_callN (As := [.int v_88, .int (nI 12)]) O (kL_low l D z v_88 12 (by decide) (by decide)) gL_does_L_low rfl rfl rfl 2 (by decide +kernel) (by decide) (by decide) rfl rfl (Nat.le_of_ble_eq_true rfl) dL_does_158 (fun x_89 hp_90 => ?_)
      obtain ⟨j_91, hj_92, rfl⟩ := hp_90
      refine g_eq (st' := [.int (nI j_91), .int (nI j_86), .ref (a 0)]) (rfl) rfl rfl ?_
      obtain ⟨ans_93, P_94, ha_95, hI_96, hX_97⟩ := S_clamp l D z hI hB (x := j_86) (y := j_91) (by omega) (by omega)
      refine g_callW (As := [.int (nI j_86), .int (nI j_91)]) (Aw := wX D a P J) O (hX_97 a J) gL_does_X8_clamp rfl rfl rfl 2 (by decide +kernel) (by decide) (by decide) rfl rfl rfl rfl rfl (Nat.le_of_ble_eq_true rfl) dL_does_161 (fun r9 w9 hp => ?_)
      obtain ⟨rfl, J_98, rfl⟩ := hp
      refine g_eq (st' := [.int ans_93]) (ws' := wX D a P_94 J_98) rfl rfl rfl ?_
      exact E 164 _ ans_93 _ dL_does_164 ⟨_, _, _, ha_95, hI_96, rfl, rfl⟩
    ·
      refine g_tableIn (off := 161) (tgt := 165) O dL_does_4 (by decide +kernel) (by decide +kernel) (by decide +kernel) (by decide) ?_
      refine g_aload_n O dL_does_165 0 rfl rfl ?_
      refine g_iconst (x := (nI 4)) O dL_does_166 (by decide +kernel) ?_
      refine g_callW (As := [.int (nI 4)]) (Aw := wX D a P J) O (X_count_4 l D z a P J hI.1 hB ) gL_does_X8_count rfl rfl rfl 1 (by decide +kernel) (by decide) (by decide) rfl rfl rfl rfl rfl (Nat.le_of_ble_eq_true rfl) dL_does_167 (fun r9 w9 hp => ?_)
      obtain ⟨rfl, J_99, rfl⟩ := hp
      refine g_eq (st' := [.int (nI (sv_nc (p_s P)))]) (ws' := wX D a P J_99) rfl rfl rfl ?_
      refine g_if_neN (tgt := 177) O (by omega) dL_does_170 (by decide) (fun c_100 => ?_) (fun c_100 => ?_)
      ·
        refine g_aload_n O dL_does_177 0 rfl rfl ?_
        refine g_iload_n O dL_does_178 1 rfl rfl ?_
        refine g_iconst (x := (nI 4)) O dL_does_179 (by decide +kernel) ?_
        refine g_ishr O dL_does_180 ?_
        generalize v >>> ((nI 4) &&& 31) = v_101
        refine g_aload_n O dL_does_181 0 rfl rfl ?_
        refine g_iconst (x := (nI 4)) O dL_does_182 (by decide +kernel) ?_
        refine g_callW (As := [.int (nI 4)]) (Aw := wX D a P J_99) O (X_count_4 l D z a P J_99 hI.1 hB ) gL_does_X8_count rfl rfl rfl 1 (by decide +kernel) (by decide) (by decide) rfl rfl rfl rfl rfl (Nat.le_of_ble_eq_true rfl) dL_does_183 (fun r9 w9 hp => ?_)
        obtain ⟨rfl, J_102, rfl⟩ := hp
        refine g_eq (st' := [.int (nI (sv_nc (p_s P))), .int v_101, .ref (a 0)]) (ws' := wX D a P J_102) rfl rfl rfl ?_
        refine g_callN (As := [.int v_101, .int (nI (sv_nc (p_s P)))]) O (kL_low l D z v_101 (sv_nc (p_s P)) (by omega) (by omega)) gL_does_L_low rfl rfl rfl 2 (by decide +kernel) (by decide) (by decide) rfl rfl (Nat.le_of_ble_eq_true rfl) dL_does_186 (fun x_103 hp_104 => ?_)
        obtain ⟨j_105, hj_106, rfl⟩ := hp_104
        refine g_eq (st' := [.int (nI j_105), .ref (a 0)]) (rfl) rfl rfl ?_
        obtain ⟨ans_107, P_108, ha_109, hI_110, hX_111⟩ := S_unclamp l D z hI hB (d := j_105) (by omega)
        refine g_callW (As := [.int (nI j_105)]) (Aw := wX D a P J_102) O (hX_111 a J_102) gL_does_X8_unclamp rfl rfl rfl 1 (by decide +kernel) (by decide) (by decide) rfl rfl rfl rfl rfl (Nat.le_of_ble_eq_true rfl) dL_does_189 (fun r9 w9 hp => ?_)
        obtain ⟨rfl, J_112, rfl⟩ := hp
        refine g_eq (st' := [.int ans_107]) (ws' := wX D a P_108 J_112) rfl rfl rfl ?_
        exact E 192 _ ans_107 _ dL_does_192 ⟨_, _, _, ha_109, hI_110, rfl, rfl⟩
      ·
        refine g_iconst (x := (nI 0)) O dL_does_173 (by decide +kernel) ?_
        refine g_goto (tgt := 192) O dL_does_174 (by decide) ?_
        exact E 192 _ (nI 0) _ dL_does_192 ⟨_, P, _, n5 (by decide), IW_up hI (Nat.le_add_right _ _), rfl, rfl⟩
    ·
      refine g_tableIn (off := 189) (tgt := 193) O dL_does_4 (by decide +kernel) (by decide +kernel) (by decide +kernel) (by decide) ?_
      refine g_iload_n O dL_does_193 1 rfl rfl ?_
      refine g_iconst (x := (nI 4)) O dL_does_194 (by decide +kernel) ?_
      refine g_ishr O dL_does_195 ?_
      generalize v >>> ((nI 4) &&& 31) = v_113
      refine g_iconst (x := (nI 4)) O dL_does_196 (by decide +kernel) ?_
      refine g_callN (As := [.int v_113, .int (nI 4)]) O (kL_low l D z v_113 4 (by decide) (by decide)) gL_does_L_low rfl rfl rfl 2 (by decide +kernel) (by decide) (by decide) rfl rfl (Nat.le_of_ble_eq_true rfl) dL_does_197 (fun x_114 hp_115 => ?_)
      obtain ⟨j_116, hj_117, rfl⟩ := hp_115
      refine g_eq (st' := [.int (nI j_116)]) (rfl) rfl rfl ?_
      refine g_istore_n (L' := [(0, .ref (a 0)), (1, .int v), (2, .int (nI j_116))]) O dL_does_200 rfl (by decide) [1, 2, 0] rfl ?_
      rcases (show j_116 = 0 ∨ j_116 = 1 ∨ j_116 = 2 ∨ j_116 = 3 by omega) with rfl | rfl | rfl | rfl
      ·
        refine g_aload_n O dL_does_201 0 rfl rfl ?_
        refine g_iload_n O dL_does_202 2 rfl rfl ?_
        refine g_iload_n O dL_does_203 2 rfl rfl ?_
        refine g_if_neN (tgt := 219) O (by omega) dL_does_204 (by decide) (fun c_118 => absurd c_118 (by decide)) (fun c_118 => ?_)
        refine g_iload_n O dL_does_207 1 rfl rfl ?_
        refine g_bipush (x := (nI 6)) O dL_does_208 (by decide +kernel) ?_
        refine g_ishr O dL_does_210 ?_
        generalize v >>> ((nI 6) &&& 31) = v_119
        refine g_bipush (x := (nI 61)) O dL_does_211 (by decide +kernel) ?_
        refine g_callN (As := [.int v_119, .int (nI 61)]) O (kL_low l D z v_119 61 (by decide) (by decide)) gL_does_L_low rfl rfl rfl 2 (by decide +kernel) (by decide) (by decide) rfl rfl (Nat.le_of_ble_eq_true rfl) dL_does_213 (fun x_120 hp_121 => ?_)
        obtain ⟨j_122, hj_123, rfl⟩ := hp_121
        refine g_eq (st' := [.int (nI j_122), .int (nI 0), .ref (a 0)]) (rfl) rfl rfl ?_
        refine g_goto (tgt := 269) O dL_does_216 (by decide) ?_
        obtain ⟨ans_124, P_125, ha_126, hI_127, hX_128⟩ := S_set l D z hI hB (w := 0) (x := nI j_122) (by decide) (set_ok (w := 0) (j := j_122) (lo := 0) (hi := 60) (by decide +kernel) (by decide +kernel) (by omega) (by omega) (by decide)).1 (set_ok (w := 0) (j := j_122) (lo := 0) (hi := 60) (by decide +kernel) (by decide +kernel) (by omega) (by omega) (by decide)).2.1 (set_ok (w := 0) (j := j_122) (lo := 0) (hi := 60) (by decide +kernel) (by decide +kernel) (by omega) (by omega) (by decide)).2.2
        refine g_callW (As := [.int (nI 0), .int (nI j_122)]) (Aw := wX D a P J) O (hX_128 a J) gL_does_X8_set rfl rfl rfl 2 (by decide +kernel) (by decide) (by decide) rfl rfl rfl rfl rfl (Nat.le_of_ble_eq_true rfl) dL_does_269 (fun r9 w9 hp => ?_)
        obtain ⟨rfl, J_129, rfl⟩ := hp
        refine g_eq (st' := [.int ans_124]) (ws' := wX D a P_125 J_129) rfl rfl rfl ?_
        exact E 272 _ ans_124 _ dL_does_272 ⟨_, _, _, ha_126, hI_127, rfl, rfl⟩
      ·
        refine g_aload_n O dL_does_201 0 rfl rfl ?_
        refine g_iload_n O dL_does_202 2 rfl rfl ?_
        refine g_iload_n O dL_does_203 2 rfl rfl ?_
        refine g_if_neN (tgt := 219) O (by omega) dL_does_204 (by decide) (fun c_130 => ?_) (fun c_130 => absurd c_130 (by decide))
        refine g_iload_n O dL_does_219 2 rfl rfl ?_
        refine g_iconst (x := (nI 1)) O dL_does_220 (by decide +kernel) ?_
        refine g_icmp_neN (tgt := 239) O (by omega) (by omega) dL_does_221 (by decide) (fun c_131 => absurd c_131 (by decide)) (fun c_131 => ?_)
        refine g_iconst (x := (nI 1)) O dL_does_224 (by decide +kernel) ?_
        refine g_iload_n O dL_does_225 1 rfl rfl ?_
        refine g_bipush (x := (nI 6)) O dL_does_226 (by decide +kernel) ?_
        refine g_ishr O dL_does_228 ?_
        generalize v >>> ((nI 6) &&& 31) = v_132
        refine g_sipush (x := (nI 150)) O dL_does_229 (by decide +kernel) ?_
        refine g_callN (As := [.int v_132, .int (nI 150)]) O (kL_low l D z v_132 150 (by decide) (by decide)) gL_does_L_low rfl rfl rfl 2 (by decide +kernel) (by decide) (by decide) rfl rfl (Nat.le_of_ble_eq_true rfl) dL_does_232 (fun x_133 hp_134 => ?_)
        obtain ⟨j_135, hj_136, rfl⟩ := hp_134
        refine g_eq (st' := [.int (nI j_135), .int (nI 1), .int (nI 1), .ref (a 0)]) (rfl) rfl rfl ?_
        refine g_iaddN O dL_does_235 ?_
        refine g_goto (tgt := 269) O dL_does_236 (by decide) ?_
        obtain ⟨ans_137, P_138, ha_139, hI_140, hX_141⟩ := S_set l D z hI hB (w := 1) (x := nI (1 + j_135)) (by decide) (set_ok (w := 1) (j := (1 + j_135)) (lo := 1) (hi := 150) (by decide +kernel) (by decide +kernel) (by omega) (by omega) (by decide)).1 (set_ok (w := 1) (j := (1 + j_135)) (lo := 1) (hi := 150) (by decide +kernel) (by decide +kernel) (by omega) (by omega) (by decide)).2.1 (set_ok (w := 1) (j := (1 + j_135)) (lo := 1) (hi := 150) (by decide +kernel) (by decide +kernel) (by omega) (by omega) (by decide)).2.2
        refine g_callW (As := [.int (nI 1), .int (nI (1 + j_135))]) (Aw := wX D a P J) O (hX_141 a J) gL_does_X8_set rfl rfl rfl 2 (by decide +kernel) (by decide) (by decide) rfl rfl rfl rfl rfl (Nat.le_of_ble_eq_true rfl) dL_does_269 (fun r9 w9 hp => ?_)
        obtain ⟨rfl, J_142, rfl⟩ := hp
        refine g_eq (st' := [.int ans_137]) (ws' := wX D a P_138 J_142) rfl rfl rfl ?_
        exact E 272 _ ans_137 _ dL_does_272 ⟨_, _, _, ha_139, hI_140, rfl, rfl⟩
      ·
        refine g_aload_n O dL_does_201 0 rfl rfl ?_
        refine g_iload_n O dL_does_202 2 rfl rfl ?_
        refine g_iload_n O dL_does_203 2 rfl rfl ?_
        refine g_if_neN (tgt := 219) O (by omega) dL_does_204 (by decide) (fun c_143 => ?_) (fun c_143 => absurd c_143 (by decide))
        refine g_iload_n O dL_does_219 2 rfl rfl ?_
        refine g_iconst (x := (nI 1)) O dL_does_220 (by decide +kernel) ?_
        refine g_icmp_neN (tgt := 239) O (by omega) (by omega) dL_does_221 (by decide) (fun c_144 => ?_) (fun c_144 => absurd c_144 (by decide))
        refine g_iload_n O dL_does_239 2 rfl rfl ?_
        refine g_iconst (x := (nI 2)) O dL_does_240 (by decide +kernel) ?_
        refine g_icmp_neN (tgt := 256) O (by omega) (by omega) dL_does_241 (by decide) (fun c_145 => absurd c_145 (by decide)) (fun c_145 => ?_)
        refine g_iload_n O dL_does_244 1 rfl rfl ?_
        refine g_bipush (x := (nI 6)) O dL_does_245 (by decide +kernel) ?_
        refine g_ishr O dL_does_247 ?_
        generalize v >>> ((nI 6) &&& 31) = v_146
        refine g_bipush (x := (nI 61)) O dL_does_248 (by decide +kernel) ?_
        refine g_callN (As := [.int v_146, .int (nI 61)]) O (kL_low l D z v_146 61 (by decide) (by decide)) gL_does_L_low rfl rfl rfl 2 (by decide +kernel) (by decide) (by decide) rfl rfl (Nat.le_of_ble_eq_true rfl) dL_does_250 (fun x_147 hp_148 => ?_)
        obtain ⟨j_149, hj_150, rfl⟩ := hp_148
        refine g_eq (st' := [.int (nI j_149), .int (nI 2), .ref (a 0)]) (rfl) rfl rfl ?_
        refine g_goto (tgt := 269) O dL_does_253 (by decide) ?_
        obtain ⟨ans_151, P_152, ha_153, hI_154, hX_155⟩ := S_set l D z hI hB (w := 2) (x := nI j_149) (by decide) (set_ok (w := 2) (j := j_149) (lo := 0) (hi := 60) (by decide +kernel) (by decide +kernel) (by omega) (by omega) (by decide)).1 (set_ok (w := 2) (j := j_149) (lo := 0) (hi := 60) (by decide +kernel) (by decide +kernel) (by omega) (by omega) (by decide)).2.1 (set_ok (w := 2) (j := j_149) (lo := 0) (hi := 60) (by decide +kernel) (by decide +kernel) (by omega) (by omega) (by decide)).2.2
        refine g_callW (As := [.int (nI 2), .int (nI j_149)]) (Aw := wX D a P J) O (hX_155 a J) gL_does_X8_set rfl rfl rfl 2 (by decide +kernel) (by decide) (by decide) rfl rfl rfl rfl rfl (Nat.le_of_ble_eq_true rfl) dL_does_269 (fun r9 w9 hp => ?_)
        obtain ⟨rfl, J_156, rfl⟩ := hp
        refine g_eq (st' := [.int ans_151]) (ws' := wX D a P_152 J_156) rfl rfl rfl ?_
        exact E 272 _ ans_151 _ dL_does_272 ⟨_, _, _, ha_153, hI_154, rfl, rfl⟩
      ·
        refine g_aload_n O dL_does_201 0 rfl rfl ?_
        refine g_iload_n O dL_does_202 2 rfl rfl ?_
        refine g_iload_n O dL_does_203 2 rfl rfl ?_
        refine g_if_neN (tgt := 219) O (by omega) dL_does_204 (by decide) (fun c_157 => ?_) (fun c_157 => absurd c_157 (by decide))
        refine g_iload_n O dL_does_219 2 rfl rfl ?_
        refine g_iconst (x := (nI 1)) O dL_does_220 (by decide +kernel) ?_
        refine g_icmp_neN (tgt := 239) O (by omega) (by omega) dL_does_221 (by decide) (fun c_158 => ?_) (fun c_158 => absurd c_158 (by decide))
        refine g_iload_n O dL_does_239 2 rfl rfl ?_
        refine g_iconst (x := (nI 2)) O dL_does_240 (by decide +kernel) ?_
        refine g_icmp_neN (tgt := 256) O (by omega) (by omega) dL_does_241 (by decide) (fun c_159 => ?_) (fun c_159 => absurd c_159 (by decide))
        refine g_bipush (x := (nI 50)) O dL_does_256 (by decide +kernel) ?_
        refine g_iload_n O dL_does_258 1 rfl rfl ?_
        refine g_bipush (x := (nI 6)) O dL_does_259 (by decide +kernel) ?_
        refine g_ishr O dL_does_261 ?_
        generalize v >>> ((nI 6) &&& 31) = v_160
        refine g_sipush (x := (nI 152)) O dL_does_262 (by decide +kernel) ?_
        refine g_callN (As := [.int v_160, .int (nI 152)]) O (kL_low l D z v_160 152 (by decide) (by decide)) gL_does_L_low rfl rfl rfl 2 (by decide +kernel) (by decide) (by decide) rfl rfl (Nat.le_of_ble_eq_true rfl) dL_does_265 (fun x_161 hp_162 => ?_)
        obtain ⟨j_163, hj_164, rfl⟩ := hp_162
        refine g_eq (st' := [.int (nI j_163), .int (nI 50), .int (nI 3), .ref (a 0)]) (rfl) rfl rfl ?_
        refine g_iaddN O dL_does_268 ?_
        obtain ⟨ans_165, P_166, ha_167, hI_168, hX_169⟩ := S_set l D z hI hB (w := 3) (x := nI (50 + j_163)) (by decide) (set_ok (w := 3) (j := (50 + j_163)) (lo := 50) (hi := 201) (by decide +kernel) (by decide +kernel) (by omega) (by omega) (by decide)).1 (set_ok (w := 3) (j := (50 + j_163)) (lo := 50) (hi := 201) (by decide +kernel) (by decide +kernel) (by omega) (by omega) (by decide)).2.1 (set_ok (w := 3) (j := (50 + j_163)) (lo := 50) (hi := 201) (by decide +kernel) (by decide +kernel) (by omega) (by omega) (by decide)).2.2
        refine g_callW (As := [.int (nI 3), .int (nI (50 + j_163))]) (Aw := wX D a P J) O (hX_169 a J) gL_does_X8_set rfl rfl rfl 2 (by decide +kernel) (by decide) (by decide) rfl rfl rfl rfl rfl (Nat.le_of_ble_eq_true rfl) dL_does_269 (fun r9 w9 hp => ?_)
        obtain ⟨rfl, J_170, rfl⟩ := hp
        refine g_eq (st' := [.int ans_165]) (ws' := wX D a P_166 J_170) rfl rfl rfl ?_
        exact E 272 _ ans_165 _ dL_does_272 ⟨_, _, _, ha_167, hI_168, rfl, rfl⟩
    ·
      refine g_tableIn (off := 269) (tgt := 273) O dL_does_4 (by decide +kernel) (by decide +kernel) (by decide +kernel) (by decide) ?_
      refine g_aload_n O dL_does_273 0 rfl rfl ?_
      refine g_iload_n O dL_does_274 1 rfl rfl ?_
      refine g_iconst (x := (nI 4)) O dL_does_275 (by decide +kernel) ?_
      refine g_ishr O dL_does_276 ?_
      generalize v >>> ((nI 4) &&& 31) = v_171
      refine g_iconst (x := (nI 4)) O dL_does_277 (by decide +kernel) ?_
      refine g_callN (As := [.int v_171, .int (nI 4)]) O (kL_low l D z v_171 4 (by decide) (by decide)) gL_does_L_low rfl rfl rfl 2 (by decide +kernel) (by decide) (by decide) rfl rfl (Nat.le_of_ble_eq_true rfl) dL_does_278 (fun x_172 hp_173 => ?_)
      obtain ⟨j_174, hj_175, rfl⟩ := hp_173
      refine g_eq (st' := [.int (nI j_174), .ref (a 0)]) (rfl) rfl rfl ?_
      refine g_iload_n O dL_does_281 1 rfl rfl ?_
      refine g_bipush (x := (nI 6)) O dL_does_282 (by decide +kernel) ?_
      refine g_ishr O dL_does_284 ?_
      generalize v >>> ((nI 6) &&& 31) = v_176
      refine g_bipush (x := (nI 12)) O dL_does_285 (by decide +kernel) ?_
      refine g_callN (As := [.int v_176, .int (nI 12)]) O (kL_low l D z v_176 12 (by decide) (by decide)) gL_does_L_low rfl rfl rfl 2 (by decide +kernel) (by decide) (by decide) rfl rfl (Nat.le_of_ble_eq_true rfl) dL_does_287 (fun x_177 hp_178 => ?_)
      obtain ⟨j_179, hj_180, rfl⟩ := hp_178
      refine g_eq (st' := [.int (nI j_179), .int (nI j_174), .ref (a 0)]) (rfl) rfl rfl ?_
      refine g_iconst (x := (nI 1)) O dL_does_290 (by decide +kernel) ?_
      refine g_iload_n O dL_does_291 1 rfl rfl ?_
      refine g_bipush (x := (nI 10)) O dL_does_292 (by decide +kernel) ?_
      refine g_ishr O dL_does_294 ?_
      generalize v >>> ((nI 10) &&& 31) = v_181
      refine g_bipush (x := (nI 6)) O dL_does_295 (by decide +kernel) ?_
      refine g_callN (As := [.int v_181, .int (nI 6)]) O (kL_low l D z v_181 6 (by decide) (by decide)) gL_does_L_low rfl rfl rfl 2 (by decide +kernel) (by decide) (by decide) rfl rfl (Nat.le_of_ble_eq_true rfl) dL_does_297 (fun x_182 hp_183 => ?_)
      obtain ⟨j_184, hj_185, rfl⟩ := hp_183
      refine g_eq (st' := [.int (nI j_184), .int (nI 1), .int (nI j_179), .int (nI j_174), .ref (a 0)]) (rfl) rfl rfl ?_
      refine g_iaddN O dL_does_300 ?_
      obtain ⟨ans_186, P_187, ha_188, hI_189, hX_190⟩ := S_bow l D z hI hB (x := j_174) (y := j_179) (k := (1 + j_184)) (by omega) (by omega) (by omega) (by omega)
      refine g_callW (As := [.int (nI j_174), .int (nI j_179), .int (nI (1 + j_184))]) (Aw := wX D a P J) O (hX_190 a J) gL_does_X8_bow rfl rfl rfl 3 (by decide +kernel) (by decide) (by decide) rfl rfl rfl rfl rfl (Nat.le_of_ble_eq_true rfl) dL_does_301 (fun r9 w9 hp => ?_)
      obtain ⟨rfl, J_191, rfl⟩ := hp
      refine g_eq (st' := [.int ans_186]) (ws' := wX D a P_187 J_191) rfl rfl rfl ?_
      exact E 304 _ ans_186 _ dL_does_304 ⟨_, _, _, ha_188, hI_189, rfl, rfl⟩
    ·
      refine g_tableIn (off := 269) (tgt := 273) O dL_does_4 (by decide +kernel) (by decide +kernel) (by decide +kernel) (by decide) ?_
      refine g_aload_n O dL_does_273 0 rfl rfl ?_
      refine g_iload_n O dL_does_274 1 rfl rfl ?_
      refine g_iconst (x := (nI 4)) O dL_does_275 (by decide +kernel) ?_
      refine g_ishr O dL_does_276 ?_
      generalize v >>> ((nI 4) &&& 31) = v_192
      refine g_iconst (x := (nI 4)) O dL_does_277 (by decide +kernel) ?_
      refine g_callN (As := [.int v_192, .int (nI 4)]) O (kL_low l D z v_192 4 (by decide) (by decide)) gL_does_L_low rfl rfl rfl 2 (by decide +kernel) (by decide) (by decide) rfl rfl (Nat.le_of_ble_eq_true rfl) dL_does_278 (fun x_193 hp_194 => ?_)
      obtain ⟨j_195, hj_196, rfl⟩ := hp_194
      refine g_eq (st' := [.int (nI j_195), .ref (a 0)]) (rfl) rfl rfl ?_
      refine g_iload_n O dL_does_281 1 rfl rfl ?_
      refine g_bipush (x := (nI 6)) O dL_does_282 (by decide +kernel) ?_
      refine g_ishr O dL_does_284 ?_
      generalize v >>> ((nI 6) &&& 31) = v_197
      refine g_bipush (x := (nI 12)) O dL_does_285 (by decide +kernel) ?_
      refine g_callN (As := [.int v_197, .int (nI 12)]) O (kL_low l D z v_197 12 (by decide) (by decide)) gL_does_L_low rfl rfl rfl 2 (by decide +kernel) (by decide) (by decide) rfl rfl (Nat.le_of_ble_eq_true rfl) dL_does_287 (fun x_198 hp_199 => ?_)
      obtain ⟨j_200, hj_201, rfl⟩ := hp_199
      refine g_eq (st' := [.int (nI j_200), .int (nI j_195), .ref (a 0)]) (rfl) rfl rfl ?_
      refine g_iconst (x := (nI 1)) O dL_does_290 (by decide +kernel) ?_
      refine g_iload_n O dL_does_291 1 rfl rfl ?_
      refine g_bipush (x := (nI 10)) O dL_does_292 (by decide +kernel) ?_
      refine g_ishr O dL_does_294 ?_
      generalize v >>> ((nI 10) &&& 31) = v_202
      refine g_bipush (x := (nI 6)) O dL_does_295 (by decide +kernel) ?_
      refine g_callN (As := [.int v_202, .int (nI 6)]) O (kL_low l D z v_202 6 (by decide) (by decide)) gL_does_L_low rfl rfl rfl 2 (by decide +kernel) (by decide) (by decide) rfl rfl (Nat.le_of_ble_eq_true rfl) dL_does_297 (fun x_203 hp_204 => ?_)
      obtain ⟨j_205, hj_206, rfl⟩ := hp_204
      refine g_eq (st' := [.int (nI j_205), .int (nI 1), .int (nI j_200), .int (nI j_195), .ref (a 0)]) (rfl) rfl rfl ?_
      refine g_iaddN O dL_does_300 ?_
      obtain ⟨ans_207, P_208, ha_209, hI_210, hX_211⟩ := S_bow l D z hI hB (x := j_195) (y := j_200) (k := (1 + j_205)) (by omega) (by omega) (by omega) (by omega)
      refine g_callW (As := [.int (nI j_195), .int (nI j_200), .int (nI (1 + j_205))]) (Aw := wX D a P J) O (hX_211 a J) gL_does_X8_bow rfl rfl rfl 3 (by decide +kernel) (by decide) (by decide) rfl rfl rfl rfl rfl (Nat.le_of_ble_eq_true rfl) dL_does_301 (fun r9 w9 hp => ?_)
      obtain ⟨rfl, J_212, rfl⟩ := hp
      refine g_eq (st' := [.int ans_207]) (ws' := wX D a P_208 J_212) rfl rfl rfl ?_
      exact E 304 _ ans_207 _ dL_does_304 ⟨_, _, _, ha_209, hI_210, rfl, rfl⟩
    ·
      refine g_tableIn (off := 269) (tgt := 273) O dL_does_4 (by decide +kernel) (by decide +kernel) (by decide +kernel) (by decide) ?_
      refine g_aload_n O dL_does_273 0 rfl rfl ?_
      refine g_iload_n O dL_does_274 1 rfl rfl ?_
      refine g_iconst (x := (nI 4)) O dL_does_275 (by decide +kernel) ?_
      refine g_ishr O dL_does_276 ?_
      generalize v >>> ((nI 4) &&& 31) = v_213
      refine g_iconst (x := (nI 4)) O dL_does_277 (by decide +kernel) ?_
      refine g_callN (As := [.int v_213, .int (nI 4)]) O (kL_low l D z v_213 4 (by decide) (by decide)) gL_does_L_low rfl rfl rfl 2 (by decide +kernel) (by decide) (by decide) rfl rfl (Nat.le_of_ble_eq_true rfl) dL_does_278 (fun x_214 hp_215 => ?_)
      obtain ⟨j_216, hj_217, rfl⟩ := hp_215
      refine g_eq (st' := [.int (nI j_216), .ref (a 0)]) (rfl) rfl rfl ?_
      refine g_iload_n O dL_does_281 1 rfl rfl ?_
      refine g_bipush (x := (nI 6)) O dL_does_282 (by decide +kernel) ?_
      refine g_ishr O dL_does_284 ?_
      generalize v >>> ((nI 6) &&& 31) = v_218
      refine g_bipush (x := (nI 12)) O dL_does_285 (by decide +kernel) ?_
      refine g_callN (As := [.int v_218, .int (nI 12)]) O (kL_low l D z v_218 12 (by decide) (by decide)) gL_does_L_low rfl rfl rfl 2 (by decide +kernel) (by decide) (by decide) rfl rfl (Nat.le_of_ble_eq_true rfl) dL_does_287 (fun x_219 hp_220 => ?_)
      obtain ⟨j_221, hj_222, rfl⟩ := hp_220
      refine g_eq (st' := [.int (nI j_221), .int (nI j_216), .ref (a 0)]) (rfl) rfl rfl ?_
      refine g_iconst (x := (nI 1)) O dL_does_290 (by decide +kernel) ?_
      refine g_iload_n O dL_does_291 1 rfl rfl ?_
      refine g_bipush (x := (nI 10)) O dL_does_292 (by decide +kernel) ?_
      refine g_ishr O dL_does_294 ?_
      generalize v >>> ((nI 10) &&& 31) = v_223
      refine g_bipush (x := (nI 6)) O dL_does_295 (by decide +kernel) ?_
      refine g_callN (As := [.int v_223, .int (nI 6)]) O (kL_low l D z v_223 6 (by decide) (by decide)) gL_does_L_low rfl rfl rfl 2 (by decide +kernel) (by decide) (by decide) rfl rfl (Nat.le_of_ble_eq_true rfl) dL_does_297 (fun x_224 hp_225 => ?_)
      obtain ⟨j_226, hj_227, rfl⟩ := hp_225
      refine g_eq (st' := [.int (nI j_226), .int (nI 1), .int (nI j_221), .int (nI j_216), .ref (a 0)]) (rfl) rfl rfl ?_
      refine g_iaddN O dL_does_300 ?_
      obtain ⟨ans_228, P_229, ha_230, hI_231, hX_232⟩ := S_bow l D z hI hB (x := j_216) (y := j_221) (k := (1 + j_226)) (by omega) (by omega) (by omega) (by omega)
      refine g_callW (As := [.int (nI j_216), .int (nI j_221), .int (nI (1 + j_226))]) (Aw := wX D a P J) O (hX_232 a J) gL_does_X8_bow rfl rfl rfl 3 (by decide +kernel) (by decide) (by decide) rfl rfl rfl rfl rfl (Nat.le_of_ble_eq_true rfl) dL_does_301 (fun r9 w9 hp => ?_)
      obtain ⟨rfl, J_233, rfl⟩ := hp
      refine g_eq (st' := [.int ans_228]) (ws' := wX D a P_229 J_233) rfl rfl rfl ?_
      exact E 304 _ ans_228 _ dL_does_304 ⟨_, _, _, ha_230, hI_231, rfl, rfl⟩
    ·
      refine g_tableIn (off := 269) (tgt := 273) O dL_does_4 (by decide +kernel) (by decide +kernel) (by decide +kernel) (by decide) ?_
      refine g_aload_n O dL_does_273 0 rfl rfl ?_
      refine g_iload_n O dL_does_274 1 rfl rfl ?_
      refine g_iconst (x := (nI 4)) O dL_does_275 (by decide +kernel) ?_
      refine g_ishr O dL_does_276 ?_
      generalize v >>> ((nI 4) &&& 31) = v_234
      refine g_iconst (x := (nI 4)) O dL_does_277 (by decide +kernel) ?_
      refine g_callN (As := [.int v_234, .int (nI 4)]) O (kL_low l D z v_234 4 (by decide) (by decide)) gL_does_L_low rfl rfl rfl 2 (by decide +kernel) (by decide) (by decide) rfl rfl (Nat.le_of_ble_eq_true rfl) dL_does_278 (fun x_235 hp_236 => ?_)
      obtain ⟨j_237, hj_238, rfl⟩ := hp_236
      refine g_eq (st' := [.int (nI j_237), .ref (a 0)]) (rfl) rfl rfl ?_
      refine g_iload_n O dL_does_281 1 rfl rfl ?_
      refine g_bipush (x := (nI 6)) O dL_does_282 (by decide +kernel) ?_
      refine g_ishr O dL_does_284 ?_
      generalize v >>> ((nI 6) &&& 31) = v_239
      refine g_bipush (x := (nI 12)) O dL_does_285 (by decide +kernel) ?_
      refine g_callN (As := [.int v_239, .int (nI 12)]) O (kL_low l D z v_239 12 (by decide) (by decide)) gL_does_L_low rfl rfl rfl 2 (by decide +kernel) (by decide) (by decide) rfl rfl (Nat.le_of_ble_eq_true rfl) dL_does_287 (fun x_240 hp_241 => ?_)
      obtain ⟨j_242, hj_243, rfl⟩ := hp_241
      refine g_eq (st' := [.int (nI j_242), .int (nI j_237), .ref (a 0)]) (rfl) rfl rfl ?_
      refine g_iconst (x := (nI 1)) O dL_does_290 (by decide +kernel) ?_
      refine g_iload_n O dL_does_291 1 rfl rfl ?_
      refine g_bipush (x := (nI 10)) O dL_does_292 (by decide +kernel) ?_
      refine g_ishr O dL_does_294 ?_
      generalize v >>> ((nI 10) &&& 31) = v_244
      refine g_bipush (x := (nI 6)) O dL_does_295 (by decide +kernel) ?_
      refine g_callN (As := [.int v_244, .int (nI 6)]) O (kL_low l D z v_244 6 (by decide) (by decide)) gL_does_L_low rfl rfl rfl 2 (by decide +kernel) (by decide) (by decide) rfl rfl (Nat.le_of_ble_eq_true rfl) dL_does_297 (fun x_245 hp_246 => ?_)
      obtain ⟨j_247, hj_248, rfl⟩ := hp_246
      refine g_eq (st' := [.int (nI j_247), .int (nI 1), .int (nI j_242), .int (nI j_237), .ref (a 0)]) (rfl) rfl rfl ?_
      refine g_iaddN O dL_does_300 ?_
      obtain ⟨ans_249, P_250, ha_251, hI_252, hX_253⟩ := S_bow l D z hI hB (x := j_237) (y := j_242) (k := (1 + j_247)) (by omega) (by omega) (by omega) (by omega)
      refine g_callW (As := [.int (nI j_237), .int (nI j_242), .int (nI (1 + j_247))]) (Aw := wX D a P J) O (hX_253 a J) gL_does_X8_bow rfl rfl rfl 3 (by decide +kernel) (by decide) (by decide) rfl rfl rfl rfl rfl (Nat.le_of_ble_eq_true rfl) dL_does_301 (fun r9 w9 hp => ?_)
      obtain ⟨rfl, J_254, rfl⟩ := hp
      refine g_eq (st' := [.int ans_249]) (ws' := wX D a P_250 J_254) rfl rfl rfl ?_
      exact E 304 _ ans_249 _ dL_does_304 ⟨_, _, _, ha_251, hI_252, rfl, rfl⟩
    ·
      refine g_tableIn (off := 301) (tgt := 305) O dL_does_4 (by decide +kernel) (by decide +kernel) (by decide +kernel) (by decide) ?_
      refine g_iload_n O dL_does_305 1 rfl rfl ?_
      refine g_iconst (x := (nI 4)) O dL_does_306 (by decide +kernel) ?_
      refine g_ishr O dL_does_307 ?_
      generalize v >>> ((nI 4) &&& 31) = v_255
      refine g_iconst (x := (nI 3)) O dL_does_308 (by decide +kernel) ?_
      refine g_iand O dL_does_309 ?_
      refine g_if_ne (tgt := 328) O dL_does_310 (by decide) (fun c_256 => ?_) (fun c_256 => ?_)
      ·
        refine g_aload_n O dL_does_328 0 rfl rfl ?_
        refine g_iconst (x := (nI 1)) O dL_does_329 (by decide +kernel) ?_
        obtain ⟨ans_257, P_258, ha_259, hI_260, hX_261⟩ := S_play l D z hI hB (k := 1) (by omega) (by omega)
        refine g_callW (As := [.int (nI 1)]) (Aw := wX D a P J) O (hX_261 a J) gL_does_X8_play rfl rfl rfl 1 (by decide +kernel) (by decide) (by decide) rfl rfl rfl rfl rfl (Nat.le_of_ble_eq_true rfl) dL_does_330 (fun r9 w9 hp => ?_)
        obtain ⟨rfl, J_262, rfl⟩ := hp
        refine g_eq (st' := [.int ans_257]) (ws' := wX D a P_258 J_262) rfl rfl rfl ?_
        exact E 333 _ ans_257 _ dL_does_333 ⟨_, _, _, ha_259, hI_260, rfl, rfl⟩
      ·
        refine g_aload_n O dL_does_313 0 rfl rfl ?_
        refine g_iload_n O dL_does_314 1 rfl rfl ?_
        refine g_bipush (x := (nI 6)) O dL_does_315 (by decide +kernel) ?_
        refine g_ishr O dL_does_317 ?_
        generalize v >>> ((nI 6) &&& 31) = v_263
        refine g_iconst (x := (nI 4)) O dL_does_318 (by decide +kernel) ?_
        refine g_callN (As := [.int v_263, .int (nI 4)]) O (kL_low l D z v_263 4 (by decide) (by decide)) gL_does_L_low rfl rfl rfl 2 (by decide +kernel) (by decide) (by decide) rfl rfl (Nat.le_of_ble_eq_true rfl) dL_does_319 (fun x_264 hp_265 => ?_)
        obtain ⟨j_266, hj_267, rfl⟩ := hp_265
        refine g_eq (st' := [.int (nI j_266), .ref (a 0)]) (rfl) rfl rfl ?_
        obtain ⟨ans_268, P_269, ha_270, hI_271, hX_272⟩ := S_strike l D z hI hB (x := j_266) (by omega)
        refine g_callW (As := [.int (nI j_266)]) (Aw := wX D a P J) O (hX_272 a J) gL_does_X8_strike rfl rfl rfl 1 (by decide +kernel) (by decide) (by decide) rfl rfl rfl rfl rfl (Nat.le_of_ble_eq_true rfl) dL_does_322 (fun r9 w9 hp => ?_)
        obtain ⟨rfl, J_273, rfl⟩ := hp
        refine g_eq (st' := [.int ans_268]) (ws' := wX D a P_269 J_273) rfl rfl rfl ?_
        refine g_goto (tgt := 333) O dL_does_325 (by decide) ?_
        exact E 333 _ ans_268 _ dL_does_333 ⟨_, _, _, ha_270, hI_271, rfl, rfl⟩
  ·
    refine g_tableO (tgt := 334) (N := 12) O dL_does_4 (Or.inr (nI_le (by omega) (by omega))) (by decide) (by decide) (by decide) ?_
    refine g_aload_n O dL_does_334 0 rfl rfl ?_
    refine g_iconst (x := (nI 1)) O dL_does_335 (by decide +kernel) ?_
    refine g_iload_n O dL_does_336 1 rfl rfl ?_
    refine g_iconst (x := (nI 4)) O dL_does_337 (by decide +kernel) ?_
    refine g_ishr O dL_does_338 ?_
    generalize v >>> ((nI 4) &&& 31) = v_274
    refine g_iconst (x := (nI 4)) O dL_does_339 (by decide +kernel) ?_
    refine g_callN (As := [.int v_274, .int (nI 4)]) O (kL_low l D z v_274 4 (by decide) (by decide)) gL_does_L_low rfl rfl rfl 2 (by decide +kernel) (by decide) (by decide) rfl rfl (Nat.le_of_ble_eq_true rfl) dL_does_340 (fun x_275 hp_276 => ?_)
    obtain ⟨j_277, hj_278, rfl⟩ := hp_276
    refine g_eq (st' := [.int (nI j_277), .int (nI 1), .ref (a 0)]) (rfl) rfl rfl ?_
    refine g_iaddN O dL_does_343 ?_
    obtain ⟨ans_279, P_280, ha_281, hI_282, hX_283⟩ := S_play l D z hI hB (k := (1 + j_277)) (by omega) (by omega)
    refine g_callW (As := [.int (nI (1 + j_277))]) (Aw := wX D a P J) O (hX_283 a J) gL_does_X8_play rfl rfl rfl 1 (by decide +kernel) (by decide) (by decide) rfl rfl rfl rfl rfl (Nat.le_of_ble_eq_true rfl) dL_does_344 (fun r9 w9 hp => ?_)
    obtain ⟨rfl, J_284, rfl⟩ := hp
    refine g_eq (st' := [.int ans_279]) (ws' := wX D a P_280 J_284) rfl rfl rfl ?_
    exact E 347 _ ans_279 _ dL_does_347 ⟨_, _, _, ha_281, hI_282, rfl, rfl⟩
