/-! areWaysSo -/
set_option maxHeartbeats 4000000 in
set_option maxRecDepth 100000 in
theorem kL_areWaysSo (l : Launch) (D : va_G) (z : Nat × Nat × Nat) (a : Nat → Nat) (P : PS) (J : JS) {Bd : Nat} (hI : IW Bd P) (hB : Bd < 1073741824) : CM l yL_areWaysSo wsL_areWaysSo ({ frames := 7, cells := 0, slots := 0, locals := 159 } : Room) D z [.ref (a 0)] (wX D a P J) (fun r w => r = some (.int (bB true)) ∧ ∃ J', w = wX D a P J') 0 0 := by
  refine CM_bool (own := RL) (cc := cL_areWaysSo) (maxL := 9) (L0 := [(0, .ref (a 0))]) (by decide) rfl rfl (Nat.le_of_ble_eq_true rfl) rfl (fun X O E => ?_)
  have hok := hI.1.1
  refine g_iconst (x := (nI 0)) O dL_areWaysSo_0 (by decide +kernel) ?_
  refine g_istore_n (L' := [(0, .ref (a 0)), (1, .int (nI 0))]) O dL_areWaysSo_1 rfl (by decide) [1, 0] rfl ?_
  refine g_iconst (x := (nI 0)) O dL_areWaysSo_2 (by decide +kernel) ?_
  refine g_istore_n (L' := [(0, .ref (a 0)), (1, .int (nI 0)), (2, .int (nI 0))]) O dL_areWaysSo_3 rfl (by decide) [1, 2, 0] rfl ?_
  refine g_aload_n O dL_areWaysSo_4 0 rfl rfl ?_
  refine g_bipush (x := (nI 48)) O dL_areWaysSo_5 (by decide +kernel) ?_
  refine g_iconst (x := (nI 0)) O dL_areWaysSo_7 (by decide +kernel) ?_
  refine g_callW (As := [.int (nI 48), .int (nI 0)]) (Aw := wX D a P J) O (X_way_b1 l D z a P (nI 48) (nI 0) J hI.1 hB (by decide +kernel)) gL_areWaysSo_X8_way rfl rfl rfl 2 (by decide +kernel) (by decide) (by decide) rfl rfl rfl rfl rfl (Nat.le_of_ble_eq_true rfl) dL_areWaysSo_8 (fun r9 w9 hp => ?_)
  obtain ⟨rfl, J_1, rfl⟩ := hp
  refine g_eq (st' := [.int (-1)]) (ws' := wX D a P J_1) rfl rfl rfl ?_
  refine g_iconst (x := (-1)) O dL_areWaysSo_11 (by decide +kernel) ?_
  refine g_icmp_ne (tgt := 19) O dL_areWaysSo_12 (by decide) (fun c_2 => (by exact absurd rfl c_2)) (fun c_2 => ?_)
  refine g_iconst (x := (nI 1)) O dL_areWaysSo_15 (by decide +kernel) ?_
  refine g_goto (tgt := 20) O dL_areWaysSo_16 (by decide) ?_
  refine g_istore_n (L' := [(0, .ref (a 0)), (1, .int (nI 0)), (2, .int (nI 0)), (3, .int (nI 1))]) O dL_areWaysSo_20 rfl (by decide) [1, 2, 3, 0] rfl ?_
  refine g_iconst (x := (nI 0)) O dL_areWaysSo_21 (by decide +kernel) ?_
  refine g_istore (L' := [(0, .ref (a 0)), (1, .int (nI 0)), (2, .int (nI 0)), (3, .int (nI 1)), (4, .int (nI 0))]) O dL_areWaysSo_22 (by decide) [1, 2, 3, 4, 0] rfl ?_
  have J24 : ∀ (n_ : Nat), ∀ (wv : Nat) (J1_ : JS) (hw : wv ≤ 48), 48 - wv < n_ → G X 0 0 24 [(0, .ref (a 0)), (1, .int (nI (lsN wv))), (2, .int (nI (cntB (fpP (p_s P)) wv))), (3, .int (nI 1)), (4, .int (nI wv))] [] (wX D a P J1_) := by
    intro n_
    induction n_ with
    | zero => intro wv J1_ hw hm_; exact absurd hm_ (Nat.not_lt_zero _)
    | succ n_ ih1 =>
      intro wv J1_ hw hm_
      have hcw := cntB_le (fpP (p_s P)) wv
      refine g_iload O dL_areWaysSo_24 4 rfl ?_
      refine g_bipush (x := (nI 48)) O dL_areWaysSo_26 (by decide +kernel) ?_
      refine g_icmp_geN (tgt := 242) O (by omega) (by omega) dL_areWaysSo_28 (by decide) (fun c_3 => ?_) (fun c_3 => ?_)
      ·
        obtain rfl : wv = 48 := by omega
        refine g_iload_n O dL_areWaysSo_242 3 rfl rfl ?_
        refine g_if_eqN (tgt := 270) O (by omega) dL_areWaysSo_243 (by decide) (fun c_4 => absurd c_4 (by decide)) (fun c_4 => ?_)
        refine g_iload_n O dL_areWaysSo_246 2 rfl rfl ?_
        refine g_aload_n O dL_areWaysSo_247 0 rfl rfl ?_
        refine g_bipush (x := (nI 9)) O dL_areWaysSo_248 (by decide +kernel) ?_
        refine g_callW (As := [.int (nI 9)]) (Aw := wX D a P J1_) O (X_count_9 l D z a P J1_ hI.1 hB ) gL_areWaysSo_X8_count rfl rfl rfl 1 (by decide +kernel) (by decide) (by decide) rfl rfl rfl rfl rfl (Nat.le_of_ble_eq_true rfl) dL_areWaysSo_250 (fun r9 w9 hp => ?_)
        obtain ⟨rfl, J_5, rfl⟩ := hp
        refine g_eq (st' := [.int (nI (cntB (fpP (p_s P)) 48)), .int (nI (cntB (fpP (p_s P)) 48))]) (ws' := wX D a P J_5) rfl rfl rfl ?_
        refine g_icmp_neN (tgt := 270) O (by omega) (by omega) dL_areWaysSo_253 (by decide) (fun c_6 => (by exact absurd rfl c_6)) (fun c_6 => ?_)
        refine g_aload_n O dL_areWaysSo_256 0 rfl rfl ?_
        refine g_iload_n O dL_areWaysSo_257 2 rfl rfl ?_
        refine g_callW (As := [.int (nI (cntB (fpP (p_s P)) 48))]) (Aw := wX D a P J_5) O (X_possible_b2 l D z a P (cntB (fpP (p_s P)) 48) J_5 hI.1 hB (by have := cntB_le (fpP (p_s P)) 48; omega) (Nat.le_refl _)) gL_areWaysSo_X8_possible rfl rfl rfl 1 (by decide +kernel) (by decide) (by decide) rfl rfl rfl rfl rfl (Nat.le_of_ble_eq_true rfl) dL_areWaysSo_258 (fun r9 w9 hp => ?_)
        obtain ⟨rfl, J_7, rfl⟩ := hp
        refine g_eq (st' := [.int (-5)]) (ws' := wX D a P J_7) rfl rfl rfl ?_
        refine g_bipush (x := (-5)) O dL_areWaysSo_261 (by decide +kernel) ?_
        refine g_icmp_ne (tgt := 270) O dL_areWaysSo_263 (by decide) (fun c_8 => (by exact absurd rfl c_8)) (fun c_8 => ?_)
        refine g_iconst (x := (nI 1)) O dL_areWaysSo_266 (by decide +kernel) ?_
        refine g_goto (tgt := 271) O dL_areWaysSo_267 (by decide) ?_
        refine g_eq (st' := [.int (bB true)]) rfl rfl rfl ?_
        exact E 271 _ true _ dL_areWaysSo_271 ⟨rfl, _, rfl⟩
      ·
        have hw8 : wv < 48 := by omega
        obtain ⟨htm, htn, hts⟩ := tab_all wv hw8
        obtain ⟨⟨hle, hlts⟩, hls⟩ := way_tab wv hw8
        simp only [ntN] at hls
        have hmm : tM wv * tM wv ≤ 36 := Nat.mul_le_mul htm htm
        have hnn : tN wv * tN wv ≤ 36 := Nat.mul_le_mul htn htn
        have hcn := cntB_le (fun p => stB (p_s P) wv p) 144
        refine g_aload_n O dL_areWaysSo_31 0 rfl rfl ?_
        refine g_iload O dL_areWaysSo_32 4 rfl ?_
        refine g_iconst (x := (nI 0)) O dL_areWaysSo_34 (by decide +kernel) ?_
        refine g_callW (As := [.int (nI wv), .int (nI 0)]) (Aw := wX D a P J1_) O (X_way_0 l D z a P wv J1_ hI.1 hB (by first | omega | assumption)) gL_areWaysSo_X8_way rfl rfl rfl 2 (by decide +kernel) (by decide) (by decide) rfl rfl rfl rfl rfl (Nat.le_of_ble_eq_true rfl) dL_areWaysSo_35 (fun r9 w9 hp => ?_)
        obtain ⟨rfl, J_9, rfl⟩ := hp
        refine g_eq (st' := [.int (nI (tM wv))]) (ws' := wX D a P J_9) rfl rfl rfl ?_
        refine g_istore (L' := [(0, .ref (a 0)), (1, .int (nI (lsN wv))), (2, .int (nI (cntB (fpP (p_s P)) wv))), (3, .int (nI 1)), (4, .int (nI wv)), (5, .int (nI (tM wv)))]) O dL_areWaysSo_38 (by decide) [1, 2, 3, 4, 5, 0] rfl ?_
        refine g_aload_n O dL_areWaysSo_40 0 rfl rfl ?_
        refine g_iload O dL_areWaysSo_41 4 rfl ?_
        refine g_iconst (x := (nI 1)) O dL_areWaysSo_43 (by decide +kernel) ?_
        refine g_callW (As := [.int (nI wv), .int (nI 1)]) (Aw := wX D a P J_9) O (X_way_1 l D z a P wv J_9 hI.1 hB (by first | omega | assumption)) gL_areWaysSo_X8_way rfl rfl rfl 2 (by decide +kernel) (by decide) (by decide) rfl rfl rfl rfl rfl (Nat.le_of_ble_eq_true rfl) dL_areWaysSo_44 (fun r9 w9 hp => ?_)
        obtain ⟨rfl, J_10, rfl⟩ := hp
        refine g_eq (st' := [.int (nI (tN wv))]) (ws' := wX D a P J_10) rfl rfl rfl ?_
        refine g_istore (L' := [(0, .ref (a 0)), (1, .int (nI (lsN wv))), (2, .int (nI (cntB (fpP (p_s P)) wv))), (3, .int (nI 1)), (4, .int (nI wv)), (5, .int (nI (tM wv))), (6, .int (nI (tN wv)))]) O dL_areWaysSo_47 (by decide) [1, 2, 3, 4, 5, 6, 0] rfl ?_
        refine g_bipush (x := (nI 10)) O dL_areWaysSo_49 (by decide +kernel) ?_
        refine g_aload_n O dL_areWaysSo_51 0 rfl rfl ?_
        refine g_iload O dL_areWaysSo_52 4 rfl ?_
        refine g_iconst (x := (nI 3)) O dL_areWaysSo_54 (by decide +kernel) ?_
        refine g_callW (As := [.int (nI wv), .int (nI 3)]) (Aw := wX D a P J_10) O (X_way_3 l D z a P wv J_10 hI.1 hB (by first | omega | assumption)) gL_areWaysSo_X8_way rfl rfl rfl 2 (by decide +kernel) (by decide) (by decide) rfl rfl rfl rfl rfl (Nat.le_of_ble_eq_true rfl) dL_areWaysSo_55 (fun r9 w9 hp => ?_)
        obtain ⟨rfl, J_11, rfl⟩ := hp
        refine g_eq (st' := [.int (nI (10 * (tM wv * tM wv + tN wv * tN wv) + tS wv)), .int (nI 10)]) (ws' := wX D a P J_11) rfl rfl rfl ?_
        refine g_imulN O dL_areWaysSo_58 ?_
        refine g_iload O dL_areWaysSo_59 5 rfl ?_
        refine g_iaddN O dL_areWaysSo_61 ?_
        refine g_istore (L' := [(0, .ref (a 0)), (1, .int (nI (lsN wv))), (2, .int (nI (cntB (fpP (p_s P)) wv))), (3, .int (nI 1)), (4, .int (nI wv)), (5, .int (nI (tM wv))), (6, .int (nI (tN wv))), (7, .int (nI ((10 * (10 * (tM wv * tM wv + tN wv * tN wv) + tS wv)) + (tM wv))))]) O dL_areWaysSo_62 (by decide) [1, 2, 3, 4, 5, 6, 7, 0] rfl ?_
        cases hfp : fpP (p_s P) wv
        · by_cases hlt : cntB (fpP (p_s P)) wv < cntB (fpP (p_s P)) 48
          ·
            refine g_aload_n O dL_areWaysSo_64 0 rfl rfl ?_
            refine g_iload_n O dL_areWaysSo_65 2 rfl rfl ?_
            refine g_callW (As := [.int (nI (cntB (fpP (p_s P)) wv))]) (Aw := wX D a P J_11) O (X_possible_ok l D z a P (cntB (fpP (p_s P)) wv) J_11 hI.1 hB (by first | omega | assumption)) gL_areWaysSo_X8_possible rfl rfl rfl 1 (by decide +kernel) (by decide) (by decide) rfl rfl rfl rfl rfl (Nat.le_of_ble_eq_true rfl) dL_areWaysSo_66 (fun r9 w9 hp => ?_)
            obtain ⟨rfl, J_12, rfl⟩ := hp
            refine g_eq (st' := [.int (nI (fpF (p_s P) (j_pf J_11) 48 (cntB (fpP (p_s P)) wv)))]) (ws' := wX D a P J_12) rfl rfl rfl ?_
            have hff := (fpF_at (p_s P) (j_pf J_11) 48 _ hlt).1
            refine g_iload O dL_areWaysSo_69 4 rfl ?_
            refine g_icmp_neN (tgt := 78) O (by omega) (by omega) dL_areWaysSo_71 (by decide) (fun c_13 => ?_) (fun c_13 => (by exact absurd c_13 (pos_f hfp hlt)))
            refine g_iconst (x := (nI 0)) O dL_areWaysSo_78 (by decide +kernel) ?_
            refine g_istore (L' := [(0, .ref (a 0)), (1, .int (nI (lsN wv))), (2, .int (nI (cntB (fpP (p_s P)) wv))), (3, .int (nI 1)), (4, .int (nI wv)), (5, .int (nI (tM wv))), (6, .int (nI (tN wv))), (7, .int (nI ((10 * (10 * (tM wv * tM wv + tN wv * tN wv) + tS wv)) + (tM wv)))), (8, .int (nI 0))]) O dL_areWaysSo_79 (by decide) [1, 2, 3, 4, 5, 6, 7, 8, 0] rfl ?_
            refine g_iload_n O dL_areWaysSo_81 3 rfl rfl ?_
            refine g_if_eqN (tgt := 218) O (by omega) dL_areWaysSo_82 (by decide) (fun c_14 => absurd c_14 (by decide)) (fun c_14 => ?_)
            refine g_aload_n O dL_areWaysSo_85 0 rfl rfl ?_
            refine g_iload O dL_areWaysSo_86 4 rfl ?_
            refine g_iconst (x := (nI 3)) O dL_areWaysSo_88 (by decide +kernel) ?_
            refine g_callW (As := [.int (nI wv), .int (nI 3)]) (Aw := wX D a P J_12) O (X_way_3 l D z a P wv J_12 hI.1 hB (by first | omega | assumption)) gL_areWaysSo_X8_way rfl rfl rfl 2 (by decide +kernel) (by decide) (by decide) rfl rfl rfl rfl rfl (Nat.le_of_ble_eq_true rfl) dL_areWaysSo_89 (fun r9 w9 hp => ?_)
            obtain ⟨rfl, J_15, rfl⟩ := hp
            refine g_eq (st' := [.int (nI (10 * (tM wv * tM wv + tN wv * tN wv) + tS wv))]) (ws' := wX D a P J_15) rfl rfl rfl ?_
            refine g_bipush (x := (nI 10)) O dL_areWaysSo_92 (by decide +kernel) ?_
            refine g_iload O dL_areWaysSo_94 5 rfl ?_
            refine g_iload O dL_areWaysSo_96 5 rfl ?_
            refine g_imulN O dL_areWaysSo_98 ?_
            refine g_iload O dL_areWaysSo_99 6 rfl ?_
            refine g_iload O dL_areWaysSo_101 6 rfl ?_
            refine g_imulN O dL_areWaysSo_103 ?_
            refine g_iaddN O dL_areWaysSo_104 ?_
            refine g_imulN O dL_areWaysSo_105 ?_
            refine g_aload_n O dL_areWaysSo_106 0 rfl rfl ?_
            refine g_iload O dL_areWaysSo_107 4 rfl ?_
            refine g_iconst (x := (nI 2)) O dL_areWaysSo_109 (by decide +kernel) ?_
            refine g_callW (As := [.int (nI wv), .int (nI 2)]) (Aw := wX D a P J_15) O (X_way_2 l D z a P wv J_15 hI.1 hB (by first | omega | assumption)) gL_areWaysSo_X8_way rfl rfl rfl 2 (by decide +kernel) (by decide) (by decide) rfl rfl rfl rfl rfl (Nat.le_of_ble_eq_true rfl) dL_areWaysSo_110 (fun r9 w9 hp => ?_)
            obtain ⟨rfl, J_16, rfl⟩ := hp
            refine g_eq (st' := [.int (nI (tS wv)), .int (nI (10 * (((tM wv) * (tM wv)) + ((tN wv) * (tN wv))))), .int (nI (10 * (tM wv * tM wv + tN wv * tN wv) + tS wv))]) (ws' := wX D a P J_16) rfl rfl rfl ?_
            refine g_iaddN O dL_areWaysSo_113 ?_
            refine g_icmp_neN (tgt := 218) O (by omega) (by omega) dL_areWaysSo_114 (by decide) (fun c_17 => (by exact absurd rfl c_17)) (fun c_17 => ?_)
            refine g_iload O dL_areWaysSo_117 7 rfl ?_
            refine g_iload_n O dL_areWaysSo_119 1 rfl rfl ?_
            refine g_icmp_leN (tgt := 218) O (by omega) (by omega) dL_areWaysSo_120 (by decide) (fun c_18 => (by omega)) (fun c_18 => ?_)
            refine g_iload O dL_areWaysSo_123 5 rfl ?_
            refine g_iload O dL_areWaysSo_125 6 rfl ?_
            refine g_icmp_gtN (tgt := 218) O (by omega) (by omega) dL_areWaysSo_127 (by decide) (fun c_19 => (by omega)) (fun c_19 => ?_)
            refine g_iload O dL_areWaysSo_130 5 rfl ?_
            refine g_iload O dL_areWaysSo_132 6 rfl ?_
            refine g_icmp_ltN (tgt := 147) O (by omega) (by omega) dL_areWaysSo_134 (by decide) (fun c_20 => ?_) (fun c_20 => ?_)
            ·
              refine g_aload_n O dL_areWaysSo_147 0 rfl rfl ?_
              refine g_iload O dL_areWaysSo_148 4 rfl ?_
              refine g_iconst (x := (nI 5)) O dL_areWaysSo_150 (by decide +kernel) ?_
              refine g_callW (As := [.int (nI wv), .int (nI 5)]) (Aw := wX D a P J_16) O (X_way_5 l D z a P wv J_16 hI.1 hB (by first | omega | assumption)) gL_areWaysSo_X8_way rfl rfl rfl 2 (by decide +kernel) (by decide) (by decide) rfl rfl rfl rfl rfl (Nat.le_of_ble_eq_true rfl) dL_areWaysSo_151 (fun r9 w9 hp => ?_)
              obtain ⟨rfl, J_21, rfl⟩ := hp
              refine g_eq (st' := [.int (nI ((lnF (p_s P) wv (vR (j_vt J_16)) (vC (j_vt J_16)) 144).2))]) (ws' := wX D a P J_21) rfl rfl rfl ?_
              have hl_23 := lnF_le (p_s P) wv (vR (j_vt J_16)) (vC (j_vt J_16)) 144
              have hp_24 := lnF_pos (s := (p_s P)) (w := wv) (r := vR (j_vt J_16)) (c := vC (j_vt J_16)) 144
              generalize ((lnF (p_s P) wv (vR (j_vt J_16)) (vC (j_vt J_16)) 144).2) = ln_22 at hl_23 hp_24 ⊢
              refine g_aload_n O dL_areWaysSo_154 0 rfl rfl ?_
              refine g_iload O dL_areWaysSo_155 4 rfl ?_
              refine g_iconst (x := (nI 4)) O dL_areWaysSo_157 (by decide +kernel) ?_
              refine g_callW (As := [.int (nI wv), .int (nI 4)]) (Aw := wX D a P J_21) O (X_way_4 l D z a P wv J_21 hI.1 hB (by first | omega | assumption)) gL_areWaysSo_X8_way rfl rfl rfl 2 (by decide +kernel) (by decide) (by decide) rfl rfl rfl rfl rfl (Nat.le_of_ble_eq_true rfl) dL_areWaysSo_158 (fun r9 w9 hp => ?_)
              obtain ⟨rfl, J_25, rfl⟩ := hp
              refine g_eq (st' := [.int (nI (cntB (fun p => stB (p_s P) wv p) 144)), .int (nI ln_22)]) (ws' := wX D a P J_25) rfl rfl rfl ?_
              refine g_icmp_gtN (tgt := 218) O (by omega) (by omega) dL_areWaysSo_161 (by decide) (fun c_26 => (by omega)) (fun c_26 => ?_)
              refine g_aload_n O dL_areWaysSo_164 0 rfl rfl ?_
              refine g_iload O dL_areWaysSo_165 4 rfl ?_
              refine g_iconst (x := (nI 5)) O dL_areWaysSo_167 (by decide +kernel) ?_
              refine g_callW (As := [.int (nI wv), .int (nI 5)]) (Aw := wX D a P J_25) O (X_way_5 l D z a P wv J_25 hI.1 hB (by first | omega | assumption)) gL_areWaysSo_X8_way rfl rfl rfl 2 (by decide +kernel) (by decide) (by decide) rfl rfl rfl rfl rfl (Nat.le_of_ble_eq_true rfl) dL_areWaysSo_168 (fun r9 w9 hp => ?_)
              obtain ⟨rfl, J_27, rfl⟩ := hp
              refine g_eq (st' := [.int (nI ((lnF (p_s P) wv (vR (j_vt J_25)) (vC (j_vt J_25)) 144).2))]) (ws' := wX D a P J_27) rfl rfl rfl ?_
              have hl_29 := lnF_le (p_s P) wv (vR (j_vt J_25)) (vC (j_vt J_25)) 144
              have hp_30 := lnF_pos (s := (p_s P)) (w := wv) (r := vR (j_vt J_25)) (c := vC (j_vt J_25)) 144
              generalize ((lnF (p_s P) wv (vR (j_vt J_25)) (vC (j_vt J_25)) 144).2) = ln_28 at hl_29 hp_30 ⊢
              refine g_if_neN (tgt := 178) O (by omega) dL_areWaysSo_171 (by decide) (fun c_31 => ?_) (fun c_31 => ?_)
              ·
                refine g_iconst (x := (nI 0)) O dL_areWaysSo_178 (by decide +kernel) ?_
                refine g_aload_n O dL_areWaysSo_179 0 rfl rfl ?_
                refine g_iload O dL_areWaysSo_180 4 rfl ?_
                refine g_iconst (x := (nI 4)) O dL_areWaysSo_182 (by decide +kernel) ?_
                refine g_callW (As := [.int (nI wv), .int (nI 4)]) (Aw := wX D a P J_27) O (X_way_4 l D z a P wv J_27 hI.1 hB (by first | omega | assumption)) gL_areWaysSo_X8_way rfl rfl rfl 2 (by decide +kernel) (by decide) (by decide) rfl rfl rfl rfl rfl (Nat.le_of_ble_eq_true rfl) dL_areWaysSo_183 (fun r9 w9 hp => ?_)
                obtain ⟨rfl, J_32, rfl⟩ := hp
                refine g_eq (st' := [.int (nI (cntB (fun p => stB (p_s P) wv p) 144)), .int (nI 0)]) (ws' := wX D a P J_32) rfl rfl rfl ?_
                refine g_if_neN (tgt := 193) O (by omega) dL_areWaysSo_186 (by decide) (fun c_33 => ?_) (fun c_33 => (by omega))
                refine g_iconst (x := (nI 0)) O dL_areWaysSo_193 (by decide +kernel) ?_
                refine g_icmp_neN (tgt := 218) O (by omega) (by omega) dL_areWaysSo_194 (by decide) (fun c_34 => absurd c_34 (by decide)) (fun c_34 => ?_)
                refine g_iload O dL_areWaysSo_197 8 rfl ?_
                refine g_if_eqN (tgt := 214) O (by omega) dL_areWaysSo_199 (by decide) (fun c_35 => ?_) (fun c_35 => absurd c_35 (by decide))
                refine g_iconst (x := (nI 1)) O dL_areWaysSo_214 (by decide +kernel) ?_
                refine g_goto (tgt := 219) O dL_areWaysSo_215 (by decide) ?_
                refine g_istore_n (L' := [(0, .ref (a 0)), (1, .int (nI (lsN wv))), (2, .int (nI (cntB (fpP (p_s P)) wv))), (3, .int (nI 1)), (4, .int (nI wv)), (5, .int (nI (tM wv))), (6, .int (nI (tN wv))), (7, .int (nI ((10 * (10 * (tM wv * tM wv + tN wv * tN wv) + tS wv)) + (tM wv)))), (8, .int (nI 0))]) O dL_areWaysSo_219 rfl (by decide) [1, 2, 3, 0, 4, 5, 6, 7, 8] rfl ?_
                refine g_iload_n O dL_areWaysSo_220 2 rfl rfl ?_
                refine g_iload O dL_areWaysSo_221 8 rfl ?_
                refine g_if_eqN (tgt := 230) O (by omega) dL_areWaysSo_223 (by decide) (fun c_36 => ?_) (fun c_36 => absurd c_36 (by decide))
                refine g_iconst (x := (nI 0)) O dL_areWaysSo_230 (by decide +kernel) ?_
                refine g_iaddN O dL_areWaysSo_231 ?_
                refine g_istore_n (L' := [(0, .ref (a 0)), (1, .int (nI (lsN wv))), (2, .int (nI ((cntB (fpP (p_s P)) wv) + 0))), (3, .int (nI 1)), (4, .int (nI wv)), (5, .int (nI (tM wv))), (6, .int (nI (tN wv))), (7, .int (nI ((10 * (10 * (tM wv * tM wv + tN wv * tN wv) + tS wv)) + (tM wv)))), (8, .int (nI 0))]) O dL_areWaysSo_232 rfl (by decide) [1, 2, 0, 3, 4, 5, 6, 7, 8] rfl ?_
                refine g_iload O dL_areWaysSo_233 7 rfl ?_
                refine g_istore_n (L' := [(0, .ref (a 0)), (1, .int (nI ((10 * (10 * (tM wv * tM wv + tN wv * tN wv) + tS wv)) + (tM wv)))), (2, .int (nI ((cntB (fpP (p_s P)) wv) + 0))), (3, .int (nI 1)), (4, .int (nI wv)), (5, .int (nI (tM wv))), (6, .int (nI (tN wv))), (7, .int (nI ((10 * (10 * (tM wv * tM wv + tN wv * tN wv) + tS wv)) + (tM wv)))), (8, .int (nI 0))]) O dL_areWaysSo_235 rfl (by decide) [1, 0, 2, 3, 4, 5, 6, 7, 8] rfl ?_
                refine g_iincN (L' := [(0, .ref (a 0)), (1, .int (nI ((10 * (10 * (tM wv * tM wv + tN wv * tN wv) + tS wv)) + (tM wv)))), (2, .int (nI ((cntB (fpP (p_s P)) wv) + 0))), (3, .int (nI 1)), (4, .int (nI (wv + 1))), (5, .int (nI (tM wv))), (6, .int (nI (tN wv))), (7, .int (nI ((10 * (10 * (tM wv * tM wv + tN wv * tN wv) + tS wv)) + (tM wv)))), (8, .int (nI 0))]) O dL_areWaysSo_236 4 rfl (by decide) [1, 2, 3, 4, 0, 5, 6, 7, 8] rfl ?_
                refine g_goto (tgt := 24) O dL_areWaysSo_239 (by decide) ?_
                rw [Nat.add_zero, ← cntB_f (p := fpP (p_s P)) hfp]
                refine g_locals (L' := [(0, .ref (a 0)), (1, .int (nI ((10 * (10 * (tM wv * tM wv + tN wv * tN wv) + tS wv)) + (tM wv)))), (2, .int (nI (cntB (fpP (p_s P)) (wv + 1)))), (3, .int (nI 1)), (4, .int (nI (wv + 1)))]) [0, 1, 2, 3, 4] rfl ?_
                exact ih1 (wv + 1) J_32 (by omega) (by omega)
              ·
                refine g_iconst (x := (nI 1)) O dL_areWaysSo_174 (by decide +kernel) ?_
                refine g_goto (tgt := 179) O dL_areWaysSo_175 (by decide) ?_
                refine g_aload_n O dL_areWaysSo_179 0 rfl rfl ?_
                refine g_iload O dL_areWaysSo_180 4 rfl ?_
                refine g_iconst (x := (nI 4)) O dL_areWaysSo_182 (by decide +kernel) ?_
                refine g_callW (As := [.int (nI wv), .int (nI 4)]) (Aw := wX D a P J_27) O (X_way_4 l D z a P wv J_27 hI.1 hB (by first | omega | assumption)) gL_areWaysSo_X8_way rfl rfl rfl 2 (by decide +kernel) (by decide) (by decide) rfl rfl rfl rfl rfl (Nat.le_of_ble_eq_true rfl) dL_areWaysSo_183 (fun r9 w9 hp => ?_)
                obtain ⟨rfl, J_37, rfl⟩ := hp
                refine g_eq (st' := [.int (nI (cntB (fun p => stB (p_s P) wv p) 144)), .int (nI 1)]) (ws' := wX D a P J_37) rfl rfl rfl ?_
                refine g_if_neN (tgt := 193) O (by omega) dL_areWaysSo_186 (by decide) (fun c_38 => (by omega)) (fun c_38 => ?_)
                refine g_iconst (x := (nI 1)) O dL_areWaysSo_189 (by decide +kernel) ?_
                refine g_goto (tgt := 194) O dL_areWaysSo_190 (by decide) ?_
                refine g_icmp_neN (tgt := 218) O (by omega) (by omega) dL_areWaysSo_194 (by decide) (fun c_39 => absurd c_39 (by decide)) (fun c_39 => ?_)
                refine g_iload O dL_areWaysSo_197 8 rfl ?_
                refine g_if_eqN (tgt := 214) O (by omega) dL_areWaysSo_199 (by decide) (fun c_40 => ?_) (fun c_40 => absurd c_40 (by decide))
                refine g_iconst (x := (nI 1)) O dL_areWaysSo_214 (by decide +kernel) ?_
                refine g_goto (tgt := 219) O dL_areWaysSo_215 (by decide) ?_
                refine g_istore_n (L' := [(0, .ref (a 0)), (1, .int (nI (lsN wv))), (2, .int (nI (cntB (fpP (p_s P)) wv))), (3, .int (nI 1)), (4, .int (nI wv)), (5, .int (nI (tM wv))), (6, .int (nI (tN wv))), (7, .int (nI ((10 * (10 * (tM wv * tM wv + tN wv * tN wv) + tS wv)) + (tM wv)))), (8, .int (nI 0))]) O dL_areWaysSo_219 rfl (by decide) [1, 2, 3, 0, 4, 5, 6, 7, 8] rfl ?_
                refine g_iload_n O dL_areWaysSo_220 2 rfl rfl ?_
                refine g_iload O dL_areWaysSo_221 8 rfl ?_
                refine g_if_eqN (tgt := 230) O (by omega) dL_areWaysSo_223 (by decide) (fun c_41 => ?_) (fun c_41 => absurd c_41 (by decide))
                refine g_iconst (x := (nI 0)) O dL_areWaysSo_230 (by decide +kernel) ?_
                refine g_iaddN O dL_areWaysSo_231 ?_
                refine g_istore_n (L' := [(0, .ref (a 0)), (1, .int (nI (lsN wv))), (2, .int (nI ((cntB (fpP (p_s P)) wv) + 0))), (3, .int (nI 1)), (4, .int (nI wv)), (5, .int (nI (tM wv))), (6, .int (nI (tN wv))), (7, .int (nI ((10 * (10 * (tM wv * tM wv + tN wv * tN wv) + tS wv)) + (tM wv)))), (8, .int (nI 0))]) O dL_areWaysSo_232 rfl (by decide) [1, 2, 0, 3, 4, 5, 6, 7, 8] rfl ?_
                refine g_iload O dL_areWaysSo_233 7 rfl ?_
                refine g_istore_n (L' := [(0, .ref (a 0)), (1, .int (nI ((10 * (10 * (tM wv * tM wv + tN wv * tN wv) + tS wv)) + (tM wv)))), (2, .int (nI ((cntB (fpP (p_s P)) wv) + 0))), (3, .int (nI 1)), (4, .int (nI wv)), (5, .int (nI (tM wv))), (6, .int (nI (tN wv))), (7, .int (nI ((10 * (10 * (tM wv * tM wv + tN wv * tN wv) + tS wv)) + (tM wv)))), (8, .int (nI 0))]) O dL_areWaysSo_235 rfl (by decide) [1, 0, 2, 3, 4, 5, 6, 7, 8] rfl ?_
                refine g_iincN (L' := [(0, .ref (a 0)), (1, .int (nI ((10 * (10 * (tM wv * tM wv + tN wv * tN wv) + tS wv)) + (tM wv)))), (2, .int (nI ((cntB (fpP (p_s P)) wv) + 0))), (3, .int (nI 1)), (4, .int (nI (wv + 1))), (5, .int (nI (tM wv))), (6, .int (nI (tN wv))), (7, .int (nI ((10 * (10 * (tM wv * tM wv + tN wv * tN wv) + tS wv)) + (tM wv)))), (8, .int (nI 0))]) O dL_areWaysSo_236 4 rfl (by decide) [1, 2, 3, 4, 0, 5, 6, 7, 8] rfl ?_
                refine g_goto (tgt := 24) O dL_areWaysSo_239 (by decide) ?_
                rw [Nat.add_zero, ← cntB_f (p := fpP (p_s P)) hfp]
                refine g_locals (L' := [(0, .ref (a 0)), (1, .int (nI ((10 * (10 * (tM wv * tM wv + tN wv * tN wv) + tS wv)) + (tM wv)))), (2, .int (nI (cntB (fpP (p_s P)) (wv + 1)))), (3, .int (nI 1)), (4, .int (nI (wv + 1)))]) [0, 1, 2, 3, 4] rfl ?_
                exact ih1 (wv + 1) J_37 (by omega) (by omega)
            ·
              refine g_aload_n O dL_areWaysSo_137 0 rfl rfl ?_
              refine g_iload O dL_areWaysSo_138 4 rfl ?_
              refine g_iconst (x := (nI 2)) O dL_areWaysSo_140 (by decide +kernel) ?_
              refine g_callW (As := [.int (nI wv), .int (nI 2)]) (Aw := wX D a P J_16) O (X_way_2 l D z a P wv J_16 hI.1 hB (by first | omega | assumption)) gL_areWaysSo_X8_way rfl rfl rfl 2 (by decide +kernel) (by decide) (by decide) rfl rfl rfl rfl rfl (Nat.le_of_ble_eq_true rfl) dL_areWaysSo_141 (fun r9 w9 hp => ?_)
              obtain ⟨rfl, J_42, rfl⟩ := hp
              refine g_eq (st' := [.int (nI (tS wv))]) (ws' := wX D a P J_42) rfl rfl rfl ?_
              refine g_if_neN (tgt := 218) O (by omega) dL_areWaysSo_144 (by decide) (fun c_43 => (by omega)) (fun c_43 => ?_)
              refine g_aload_n O dL_areWaysSo_147 0 rfl rfl ?_
              refine g_iload O dL_areWaysSo_148 4 rfl ?_
              refine g_iconst (x := (nI 5)) O dL_areWaysSo_150 (by decide +kernel) ?_
              refine g_callW (As := [.int (nI wv), .int (nI 5)]) (Aw := wX D a P J_42) O (X_way_5 l D z a P wv J_42 hI.1 hB (by first | omega | assumption)) gL_areWaysSo_X8_way rfl rfl rfl 2 (by decide +kernel) (by decide) (by decide) rfl rfl rfl rfl rfl (Nat.le_of_ble_eq_true rfl) dL_areWaysSo_151 (fun r9 w9 hp => ?_)
              obtain ⟨rfl, J_44, rfl⟩ := hp
              refine g_eq (st' := [.int (nI ((lnF (p_s P) wv (vR (j_vt J_42)) (vC (j_vt J_42)) 144).2))]) (ws' := wX D a P J_44) rfl rfl rfl ?_
              have hl_46 := lnF_le (p_s P) wv (vR (j_vt J_42)) (vC (j_vt J_42)) 144
              have hp_47 := lnF_pos (s := (p_s P)) (w := wv) (r := vR (j_vt J_42)) (c := vC (j_vt J_42)) 144
              generalize ((lnF (p_s P) wv (vR (j_vt J_42)) (vC (j_vt J_42)) 144).2) = ln_45 at hl_46 hp_47 ⊢
              refine g_aload_n O dL_areWaysSo_154 0 rfl rfl ?_
              refine g_iload O dL_areWaysSo_155 4 rfl ?_
              refine g_iconst (x := (nI 4)) O dL_areWaysSo_157 (by decide +kernel) ?_
              refine g_callW (As := [.int (nI wv), .int (nI 4)]) (Aw := wX D a P J_44) O (X_way_4 l D z a P wv J_44 hI.1 hB (by first | omega | assumption)) gL_areWaysSo_X8_way rfl rfl rfl 2 (by decide +kernel) (by decide) (by decide) rfl rfl rfl rfl rfl (Nat.le_of_ble_eq_true rfl) dL_areWaysSo_158 (fun r9 w9 hp => ?_)
              obtain ⟨rfl, J_48, rfl⟩ := hp
              refine g_eq (st' := [.int (nI (cntB (fun p => stB (p_s P) wv p) 144)), .int (nI ln_45)]) (ws' := wX D a P J_48) rfl rfl rfl ?_
              refine g_icmp_gtN (tgt := 218) O (by omega) (by omega) dL_areWaysSo_161 (by decide) (fun c_49 => (by omega)) (fun c_49 => ?_)
              refine g_aload_n O dL_areWaysSo_164 0 rfl rfl ?_
              refine g_iload O dL_areWaysSo_165 4 rfl ?_
              refine g_iconst (x := (nI 5)) O dL_areWaysSo_167 (by decide +kernel) ?_
              refine g_callW (As := [.int (nI wv), .int (nI 5)]) (Aw := wX D a P J_48) O (X_way_5 l D z a P wv J_48 hI.1 hB (by first | omega | assumption)) gL_areWaysSo_X8_way rfl rfl rfl 2 (by decide +kernel) (by decide) (by decide) rfl rfl rfl rfl rfl (Nat.le_of_ble_eq_true rfl) dL_areWaysSo_168 (fun r9 w9 hp => ?_)
              obtain ⟨rfl, J_50, rfl⟩ := hp
              refine g_eq (st' := [.int (nI ((lnF (p_s P) wv (vR (j_vt J_48)) (vC (j_vt J_48)) 144).2))]) (ws' := wX D a P J_50) rfl rfl rfl ?_
              have hl_52 := lnF_le (p_s P) wv (vR (j_vt J_48)) (vC (j_vt J_48)) 144
              have hp_53 := lnF_pos (s := (p_s P)) (w := wv) (r := vR (j_vt J_48)) (c := vC (j_vt J_48)) 144
              generalize ((lnF (p_s P) wv (vR (j_vt J_48)) (vC (j_vt J_48)) 144).2) = ln_51 at hl_52 hp_53 ⊢
              refine g_if_neN (tgt := 178) O (by omega) dL_areWaysSo_171 (by decide) (fun c_54 => ?_) (fun c_54 => ?_)
              ·
                refine g_iconst (x := (nI 0)) O dL_areWaysSo_178 (by decide +kernel) ?_
                refine g_aload_n O dL_areWaysSo_179 0 rfl rfl ?_
                refine g_iload O dL_areWaysSo_180 4 rfl ?_
                refine g_iconst (x := (nI 4)) O dL_areWaysSo_182 (by decide +kernel) ?_
                refine g_callW (As := [.int (nI wv), .int (nI 4)]) (Aw := wX D a P J_50) O (X_way_4 l D z a P wv J_50 hI.1 hB (by first | omega | assumption)) gL_areWaysSo_X8_way rfl rfl rfl 2 (by decide +kernel) (by decide) (by decide) rfl rfl rfl rfl rfl (Nat.le_of_ble_eq_true rfl) dL_areWaysSo_183 (fun r9 w9 hp => ?_)
                obtain ⟨rfl, J_55, rfl⟩ := hp
                refine g_eq (st' := [.int (nI (cntB (fun p => stB (p_s P) wv p) 144)), .int (nI 0)]) (ws' := wX D a P J_55) rfl rfl rfl ?_
                refine g_if_neN (tgt := 193) O (by omega) dL_areWaysSo_186 (by decide) (fun c_56 => ?_) (fun c_56 => (by omega))
                refine g_iconst (x := (nI 0)) O dL_areWaysSo_193 (by decide +kernel) ?_
                refine g_icmp_neN (tgt := 218) O (by omega) (by omega) dL_areWaysSo_194 (by decide) (fun c_57 => absurd c_57 (by decide)) (fun c_57 => ?_)
                refine g_iload O dL_areWaysSo_197 8 rfl ?_
                refine g_if_eqN (tgt := 214) O (by omega) dL_areWaysSo_199 (by decide) (fun c_58 => ?_) (fun c_58 => absurd c_58 (by decide))
                refine g_iconst (x := (nI 1)) O dL_areWaysSo_214 (by decide +kernel) ?_
                refine g_goto (tgt := 219) O dL_areWaysSo_215 (by decide) ?_
                refine g_istore_n (L' := [(0, .ref (a 0)), (1, .int (nI (lsN wv))), (2, .int (nI (cntB (fpP (p_s P)) wv))), (3, .int (nI 1)), (4, .int (nI wv)), (5, .int (nI (tM wv))), (6, .int (nI (tN wv))), (7, .int (nI ((10 * (10 * (tM wv * tM wv + tN wv * tN wv) + tS wv)) + (tM wv)))), (8, .int (nI 0))]) O dL_areWaysSo_219 rfl (by decide) [1, 2, 3, 0, 4, 5, 6, 7, 8] rfl ?_
                refine g_iload_n O dL_areWaysSo_220 2 rfl rfl ?_
                refine g_iload O dL_areWaysSo_221 8 rfl ?_
                refine g_if_eqN (tgt := 230) O (by omega) dL_areWaysSo_223 (by decide) (fun c_59 => ?_) (fun c_59 => absurd c_59 (by decide))
                refine g_iconst (x := (nI 0)) O dL_areWaysSo_230 (by decide +kernel) ?_
                refine g_iaddN O dL_areWaysSo_231 ?_
                refine g_istore_n (L' := [(0, .ref (a 0)), (1, .int (nI (lsN wv))), (2, .int (nI ((cntB (fpP (p_s P)) wv) + 0))), (3, .int (nI 1)), (4, .int (nI wv)), (5, .int (nI (tM wv))), (6, .int (nI (tN wv))), (7, .int (nI ((10 * (10 * (tM wv * tM wv + tN wv * tN wv) + tS wv)) + (tM wv)))), (8, .int (nI 0))]) O dL_areWaysSo_232 rfl (by decide) [1, 2, 0, 3, 4, 5, 6, 7, 8] rfl ?_
                refine g_iload O dL_areWaysSo_233 7 rfl ?_
                refine g_istore_n (L' := [(0, .ref (a 0)), (1, .int (nI ((10 * (10 * (tM wv * tM wv + tN wv * tN wv) + tS wv)) + (tM wv)))), (2, .int (nI ((cntB (fpP (p_s P)) wv) + 0))), (3, .int (nI 1)), (4, .int (nI wv)), (5, .int (nI (tM wv))), (6, .int (nI (tN wv))), (7, .int (nI ((10 * (10 * (tM wv * tM wv + tN wv * tN wv) + tS wv)) + (tM wv)))), (8, .int (nI 0))]) O dL_areWaysSo_235 rfl (by decide) [1, 0, 2, 3, 4, 5, 6, 7, 8] rfl ?_
                refine g_iincN (L' := [(0, .ref (a 0)), (1, .int (nI ((10 * (10 * (tM wv * tM wv + tN wv * tN wv) + tS wv)) + (tM wv)))), (2, .int (nI ((cntB (fpP (p_s P)) wv) + 0))), (3, .int (nI 1)), (4, .int (nI (wv + 1))), (5, .int (nI (tM wv))), (6, .int (nI (tN wv))), (7, .int (nI ((10 * (10 * (tM wv * tM wv + tN wv * tN wv) + tS wv)) + (tM wv)))), (8, .int (nI 0))]) O dL_areWaysSo_236 4 rfl (by decide) [1, 2, 3, 4, 0, 5, 6, 7, 8] rfl ?_
                refine g_goto (tgt := 24) O dL_areWaysSo_239 (by decide) ?_
                rw [Nat.add_zero, ← cntB_f (p := fpP (p_s P)) hfp]
                refine g_locals (L' := [(0, .ref (a 0)), (1, .int (nI ((10 * (10 * (tM wv * tM wv + tN wv * tN wv) + tS wv)) + (tM wv)))), (2, .int (nI (cntB (fpP (p_s P)) (wv + 1)))), (3, .int (nI 1)), (4, .int (nI (wv + 1)))]) [0, 1, 2, 3, 4] rfl ?_
                exact ih1 (wv + 1) J_55 (by omega) (by omega)
              ·
                refine g_iconst (x := (nI 1)) O dL_areWaysSo_174 (by decide +kernel) ?_
                refine g_goto (tgt := 179) O dL_areWaysSo_175 (by decide) ?_
                refine g_aload_n O dL_areWaysSo_179 0 rfl rfl ?_
                refine g_iload O dL_areWaysSo_180 4 rfl ?_
                refine g_iconst (x := (nI 4)) O dL_areWaysSo_182 (by decide +kernel) ?_
                refine g_callW (As := [.int (nI wv), .int (nI 4)]) (Aw := wX D a P J_50) O (X_way_4 l D z a P wv J_50 hI.1 hB (by first | omega | assumption)) gL_areWaysSo_X8_way rfl rfl rfl 2 (by decide +kernel) (by decide) (by decide) rfl rfl rfl rfl rfl (Nat.le_of_ble_eq_true rfl) dL_areWaysSo_183 (fun r9 w9 hp => ?_)
                obtain ⟨rfl, J_60, rfl⟩ := hp
                refine g_eq (st' := [.int (nI (cntB (fun p => stB (p_s P) wv p) 144)), .int (nI 1)]) (ws' := wX D a P J_60) rfl rfl rfl ?_
                refine g_if_neN (tgt := 193) O (by omega) dL_areWaysSo_186 (by decide) (fun c_61 => (by omega)) (fun c_61 => ?_)
                refine g_iconst (x := (nI 1)) O dL_areWaysSo_189 (by decide +kernel) ?_
                refine g_goto (tgt := 194) O dL_areWaysSo_190 (by decide) ?_
                refine g_icmp_neN (tgt := 218) O (by omega) (by omega) dL_areWaysSo_194 (by decide) (fun c_62 => absurd c_62 (by decide)) (fun c_62 => ?_)
                refine g_iload O dL_areWaysSo_197 8 rfl ?_
                refine g_if_eqN (tgt := 214) O (by omega) dL_areWaysSo_199 (by decide) (fun c_63 => ?_) (fun c_63 => absurd c_63 (by decide))
                refine g_iconst (x := (nI 1)) O dL_areWaysSo_214 (by decide +kernel) ?_
                refine g_goto (tgt := 219) O dL_areWaysSo_215 (by decide) ?_
                refine g_istore_n (L' := [(0, .ref (a 0)), (1, .int (nI (lsN wv))), (2, .int (nI (cntB (fpP (p_s P)) wv))), (3, .int (nI 1)), (4, .int (nI wv)), (5, .int (nI (tM wv))), (6, .int (nI (tN wv))), (7, .int (nI ((10 * (10 * (tM wv * tM wv + tN wv * tN wv) + tS wv)) + (tM wv)))), (8, .int (nI 0))]) O dL_areWaysSo_219 rfl (by decide) [1, 2, 3, 0, 4, 5, 6, 7, 8] rfl ?_
                refine g_iload_n O dL_areWaysSo_220 2 rfl rfl ?_
                refine g_iload O dL_areWaysSo_221 8 rfl ?_
                refine g_if_eqN (tgt := 230) O (by omega) dL_areWaysSo_223 (by decide) (fun c_64 => ?_) (fun c_64 => absurd c_64 (by decide))
                refine g_iconst (x := (nI 0)) O dL_areWaysSo_230 (by decide +kernel) ?_
                refine g_iaddN O dL_areWaysSo_231 ?_
                refine g_istore_n (L' := [(0, .ref (a 0)), (1, .int (nI (lsN wv))), (2, .int (nI ((cntB (fpP (p_s P)) wv) + 0))), (3, .int (nI 1)), (4, .int (nI wv)), (5, .int (nI (tM wv))), (6, .int (nI (tN wv))), (7, .int (nI ((10 * (10 * (tM wv * tM wv + tN wv * tN wv) + tS wv)) + (tM wv)))), (8, .int (nI 0))]) O dL_areWaysSo_232 rfl (by decide) [1, 2, 0, 3, 4, 5, 6, 7, 8] rfl ?_
                refine g_iload O dL_areWaysSo_233 7 rfl ?_
                refine g_istore_n (L' := [(0, .ref (a 0)), (1, .int (nI ((10 * (10 * (tM wv * tM wv + tN wv * tN wv) + tS wv)) + (tM wv)))), (2, .int (nI ((cntB (fpP (p_s P)) wv) + 0))), (3, .int (nI 1)), (4, .int (nI wv)), (5, .int (nI (tM wv))), (6, .int (nI (tN wv))), (7, .int (nI ((10 * (10 * (tM wv * tM wv + tN wv * tN wv) + tS wv)) + (tM wv)))), (8, .int (nI 0))]) O dL_areWaysSo_235 rfl (by decide) [1, 0, 2, 3, 4, 5, 6, 7, 8] rfl ?_
                refine g_iincN (L' := [(0, .ref (a 0)), (1, .int (nI ((10 * (10 * (tM wv * tM wv + tN wv * tN wv) + tS wv)) + (tM wv)))), (2, .int (nI ((cntB (fpP (p_s P)) wv) + 0))), (3, .int (nI 1)), (4, .int (nI (wv + 1))), (5, .int (nI (tM wv))), (6, .int (nI (tN wv))), (7, .int (nI ((10 * (10 * (tM wv * tM wv + tN wv * tN wv) + tS wv)) + (tM wv)))), (8, .int (nI 0))]) O dL_areWaysSo_236 4 rfl (by decide) [1, 2, 3, 4, 0, 5, 6, 7, 8] rfl ?_
                refine g_goto (tgt := 24) O dL_areWaysSo_239 (by decide) ?_
                rw [Nat.add_zero, ← cntB_f (p := fpP (p_s P)) hfp]
                refine g_locals (L' := [(0, .ref (a 0)), (1, .int (nI ((10 * (10 * (tM wv * tM wv + tN wv * tN wv) + tS wv)) + (tM wv)))), (2, .int (nI (cntB (fpP (p_s P)) (wv + 1)))), (3, .int (nI 1)), (4, .int (nI (wv + 1)))]) [0, 1, 2, 3, 4] rfl ?_
                exact ih1 (wv + 1) J_60 (by omega) (by omega)
          ·
            refine g_aload_n O dL_areWaysSo_64 0 rfl rfl ?_
            refine g_iload_n O dL_areWaysSo_65 2 rfl rfl ?_
            refine g_callW (As := [.int (nI (cntB (fpP (p_s P)) wv))]) (Aw := wX D a P J_11) O (X_possible_b2 l D z a P (cntB (fpP (p_s P)) wv) J_11 hI.1 hB (by omega) (by omega)) gL_areWaysSo_X8_possible rfl rfl rfl 1 (by decide +kernel) (by decide) (by decide) rfl rfl rfl rfl rfl (Nat.le_of_ble_eq_true rfl) dL_areWaysSo_66 (fun r9 w9 hp => ?_)
            obtain ⟨rfl, J_65, rfl⟩ := hp
            refine g_eq (st' := [.int (-5)]) (ws' := wX D a P J_65) rfl rfl rfl ?_
            refine g_iload O dL_areWaysSo_69 4 rfl ?_
            refine g_icmp_ne (tgt := 78) O dL_areWaysSo_71 (by decide) (fun c_66 => ?_) (fun c_66 => (by exact absurd c_66 (n5_ne (by omega))))
            refine g_iconst (x := (nI 0)) O dL_areWaysSo_78 (by decide +kernel) ?_
            refine g_istore (L' := [(0, .ref (a 0)), (1, .int (nI (lsN wv))), (2, .int (nI (cntB (fpP (p_s P)) wv))), (3, .int (nI 1)), (4, .int (nI wv)), (5, .int (nI (tM wv))), (6, .int (nI (tN wv))), (7, .int (nI ((10 * (10 * (tM wv * tM wv + tN wv * tN wv) + tS wv)) + (tM wv)))), (8, .int (nI 0))]) O dL_areWaysSo_79 (by decide) [1, 2, 3, 4, 5, 6, 7, 8, 0] rfl ?_
            refine g_iload_n O dL_areWaysSo_81 3 rfl rfl ?_
            refine g_if_eqN (tgt := 218) O (by omega) dL_areWaysSo_82 (by decide) (fun c_67 => absurd c_67 (by decide)) (fun c_67 => ?_)
            refine g_aload_n O dL_areWaysSo_85 0 rfl rfl ?_
            refine g_iload O dL_areWaysSo_86 4 rfl ?_
            refine g_iconst (x := (nI 3)) O dL_areWaysSo_88 (by decide +kernel) ?_
            refine g_callW (As := [.int (nI wv), .int (nI 3)]) (Aw := wX D a P J_65) O (X_way_3 l D z a P wv J_65 hI.1 hB (by first | omega | assumption)) gL_areWaysSo_X8_way rfl rfl rfl 2 (by decide +kernel) (by decide) (by decide) rfl rfl rfl rfl rfl (Nat.le_of_ble_eq_true rfl) dL_areWaysSo_89 (fun r9 w9 hp => ?_)
            obtain ⟨rfl, J_68, rfl⟩ := hp
            refine g_eq (st' := [.int (nI (10 * (tM wv * tM wv + tN wv * tN wv) + tS wv))]) (ws' := wX D a P J_68) rfl rfl rfl ?_
            refine g_bipush (x := (nI 10)) O dL_areWaysSo_92 (by decide +kernel) ?_
            refine g_iload O dL_areWaysSo_94 5 rfl ?_
            refine g_iload O dL_areWaysSo_96 5 rfl ?_
            refine g_imulN O dL_areWaysSo_98 ?_
            refine g_iload O dL_areWaysSo_99 6 rfl ?_
            refine g_iload O dL_areWaysSo_101 6 rfl ?_
            refine g_imulN O dL_areWaysSo_103 ?_
            refine g_iaddN O dL_areWaysSo_104 ?_
            refine g_imulN O dL_areWaysSo_105 ?_
            refine g_aload_n O dL_areWaysSo_106 0 rfl rfl ?_
            refine g_iload O dL_areWaysSo_107 4 rfl ?_
            refine g_iconst (x := (nI 2)) O dL_areWaysSo_109 (by decide +kernel) ?_
            refine g_callW (As := [.int (nI wv), .int (nI 2)]) (Aw := wX D a P J_68) O (X_way_2 l D z a P wv J_68 hI.1 hB (by first | omega | assumption)) gL_areWaysSo_X8_way rfl rfl rfl 2 (by decide +kernel) (by decide) (by decide) rfl rfl rfl rfl rfl (Nat.le_of_ble_eq_true rfl) dL_areWaysSo_110 (fun r9 w9 hp => ?_)
            obtain ⟨rfl, J_69, rfl⟩ := hp
            refine g_eq (st' := [.int (nI (tS wv)), .int (nI (10 * (((tM wv) * (tM wv)) + ((tN wv) * (tN wv))))), .int (nI (10 * (tM wv * tM wv + tN wv * tN wv) + tS wv))]) (ws' := wX D a P J_69) rfl rfl rfl ?_
            refine g_iaddN O dL_areWaysSo_113 ?_
            refine g_icmp_neN (tgt := 218) O (by omega) (by omega) dL_areWaysSo_114 (by decide) (fun c_70 => (by exact absurd rfl c_70)) (fun c_70 => ?_)
            refine g_iload O dL_areWaysSo_117 7 rfl ?_
            refine g_iload_n O dL_areWaysSo_119 1 rfl rfl ?_
            refine g_icmp_leN (tgt := 218) O (by omega) (by omega) dL_areWaysSo_120 (by decide) (fun c_71 => (by omega)) (fun c_71 => ?_)
            refine g_iload O dL_areWaysSo_123 5 rfl ?_
            refine g_iload O dL_areWaysSo_125 6 rfl ?_
            refine g_icmp_gtN (tgt := 218) O (by omega) (by omega) dL_areWaysSo_127 (by decide) (fun c_72 => (by omega)) (fun c_72 => ?_)
            refine g_iload O dL_areWaysSo_130 5 rfl ?_
            refine g_iload O dL_areWaysSo_132 6 rfl ?_
            refine g_icmp_ltN (tgt := 147) O (by omega) (by omega) dL_areWaysSo_134 (by decide) (fun c_73 => ?_) (fun c_73 => ?_)
            ·
              refine g_aload_n O dL_areWaysSo_147 0 rfl rfl ?_
              refine g_iload O dL_areWaysSo_148 4 rfl ?_
              refine g_iconst (x := (nI 5)) O dL_areWaysSo_150 (by decide +kernel) ?_
              refine g_callW (As := [.int (nI wv), .int (nI 5)]) (Aw := wX D a P J_69) O (X_way_5 l D z a P wv J_69 hI.1 hB (by first | omega | assumption)) gL_areWaysSo_X8_way rfl rfl rfl 2 (by decide +kernel) (by decide) (by decide) rfl rfl rfl rfl rfl (Nat.le_of_ble_eq_true rfl) dL_areWaysSo_151 (fun r9 w9 hp => ?_)
              obtain ⟨rfl, J_74, rfl⟩ := hp
              refine g_eq (st' := [.int (nI ((lnF (p_s P) wv (vR (j_vt J_69)) (vC (j_vt J_69)) 144).2))]) (ws' := wX D a P J_74) rfl rfl rfl ?_
              have hl_76 := lnF_le (p_s P) wv (vR (j_vt J_69)) (vC (j_vt J_69)) 144
              have hp_77 := lnF_pos (s := (p_s P)) (w := wv) (r := vR (j_vt J_69)) (c := vC (j_vt J_69)) 144
              generalize ((lnF (p_s P) wv (vR (j_vt J_69)) (vC (j_vt J_69)) 144).2) = ln_75 at hl_76 hp_77 ⊢
              refine g_aload_n O dL_areWaysSo_154 0 rfl rfl ?_
              refine g_iload O dL_areWaysSo_155 4 rfl ?_
              refine g_iconst (x := (nI 4)) O dL_areWaysSo_157 (by decide +kernel) ?_
              refine g_callW (As := [.int (nI wv), .int (nI 4)]) (Aw := wX D a P J_74) O (X_way_4 l D z a P wv J_74 hI.1 hB (by first | omega | assumption)) gL_areWaysSo_X8_way rfl rfl rfl 2 (by decide +kernel) (by decide) (by decide) rfl rfl rfl rfl rfl (Nat.le_of_ble_eq_true rfl) dL_areWaysSo_158 (fun r9 w9 hp => ?_)
              obtain ⟨rfl, J_78, rfl⟩ := hp
              refine g_eq (st' := [.int (nI (cntB (fun p => stB (p_s P) wv p) 144)), .int (nI ln_75)]) (ws' := wX D a P J_78) rfl rfl rfl ?_
              refine g_icmp_gtN (tgt := 218) O (by omega) (by omega) dL_areWaysSo_161 (by decide) (fun c_79 => (by omega)) (fun c_79 => ?_)
              refine g_aload_n O dL_areWaysSo_164 0 rfl rfl ?_
              refine g_iload O dL_areWaysSo_165 4 rfl ?_
              refine g_iconst (x := (nI 5)) O dL_areWaysSo_167 (by decide +kernel) ?_
              refine g_callW (As := [.int (nI wv), .int (nI 5)]) (Aw := wX D a P J_78) O (X_way_5 l D z a P wv J_78 hI.1 hB (by first | omega | assumption)) gL_areWaysSo_X8_way rfl rfl rfl 2 (by decide +kernel) (by decide) (by decide) rfl rfl rfl rfl rfl (Nat.le_of_ble_eq_true rfl) dL_areWaysSo_168 (fun r9 w9 hp => ?_)
              obtain ⟨rfl, J_80, rfl⟩ := hp
              refine g_eq (st' := [.int (nI ((lnF (p_s P) wv (vR (j_vt J_78)) (vC (j_vt J_78)) 144).2))]) (ws' := wX D a P J_80) rfl rfl rfl ?_
              have hl_82 := lnF_le (p_s P) wv (vR (j_vt J_78)) (vC (j_vt J_78)) 144
              have hp_83 := lnF_pos (s := (p_s P)) (w := wv) (r := vR (j_vt J_78)) (c := vC (j_vt J_78)) 144
              generalize ((lnF (p_s P) wv (vR (j_vt J_78)) (vC (j_vt J_78)) 144).2) = ln_81 at hl_82 hp_83 ⊢
              refine g_if_neN (tgt := 178) O (by omega) dL_areWaysSo_171 (by decide) (fun c_84 => ?_) (fun c_84 => ?_)
              ·
                refine g_iconst (x := (nI 0)) O dL_areWaysSo_178 (by decide +kernel) ?_
                refine g_aload_n O dL_areWaysSo_179 0 rfl rfl ?_
                refine g_iload O dL_areWaysSo_180 4 rfl ?_
                refine g_iconst (x := (nI 4)) O dL_areWaysSo_182 (by decide +kernel) ?_
                refine g_callW (As := [.int (nI wv), .int (nI 4)]) (Aw := wX D a P J_80) O (X_way_4 l D z a P wv J_80 hI.1 hB (by first | omega | assumption)) gL_areWaysSo_X8_way rfl rfl rfl 2 (by decide +kernel) (by decide) (by decide) rfl rfl rfl rfl rfl (Nat.le_of_ble_eq_true rfl) dL_areWaysSo_183 (fun r9 w9 hp => ?_)
                obtain ⟨rfl, J_85, rfl⟩ := hp
                refine g_eq (st' := [.int (nI (cntB (fun p => stB (p_s P) wv p) 144)), .int (nI 0)]) (ws' := wX D a P J_85) rfl rfl rfl ?_
                refine g_if_neN (tgt := 193) O (by omega) dL_areWaysSo_186 (by decide) (fun c_86 => ?_) (fun c_86 => (by omega))
                refine g_iconst (x := (nI 0)) O dL_areWaysSo_193 (by decide +kernel) ?_
                refine g_icmp_neN (tgt := 218) O (by omega) (by omega) dL_areWaysSo_194 (by decide) (fun c_87 => absurd c_87 (by decide)) (fun c_87 => ?_)
                refine g_iload O dL_areWaysSo_197 8 rfl ?_
                refine g_if_eqN (tgt := 214) O (by omega) dL_areWaysSo_199 (by decide) (fun c_88 => ?_) (fun c_88 => absurd c_88 (by decide))
                refine g_iconst (x := (nI 1)) O dL_areWaysSo_214 (by decide +kernel) ?_
                refine g_goto (tgt := 219) O dL_areWaysSo_215 (by decide) ?_
                refine g_istore_n (L' := [(0, .ref (a 0)), (1, .int (nI (lsN wv))), (2, .int (nI (cntB (fpP (p_s P)) wv))), (3, .int (nI 1)), (4, .int (nI wv)), (5, .int (nI (tM wv))), (6, .int (nI (tN wv))), (7, .int (nI ((10 * (10 * (tM wv * tM wv + tN wv * tN wv) + tS wv)) + (tM wv)))), (8, .int (nI 0))]) O dL_areWaysSo_219 rfl (by decide) [1, 2, 3, 0, 4, 5, 6, 7, 8] rfl ?_
                refine g_iload_n O dL_areWaysSo_220 2 rfl rfl ?_
                refine g_iload O dL_areWaysSo_221 8 rfl ?_
                refine g_if_eqN (tgt := 230) O (by omega) dL_areWaysSo_223 (by decide) (fun c_89 => ?_) (fun c_89 => absurd c_89 (by decide))
                refine g_iconst (x := (nI 0)) O dL_areWaysSo_230 (by decide +kernel) ?_
                refine g_iaddN O dL_areWaysSo_231 ?_
                refine g_istore_n (L' := [(0, .ref (a 0)), (1, .int (nI (lsN wv))), (2, .int (nI ((cntB (fpP (p_s P)) wv) + 0))), (3, .int (nI 1)), (4, .int (nI wv)), (5, .int (nI (tM wv))), (6, .int (nI (tN wv))), (7, .int (nI ((10 * (10 * (tM wv * tM wv + tN wv * tN wv) + tS wv)) + (tM wv)))), (8, .int (nI 0))]) O dL_areWaysSo_232 rfl (by decide) [1, 2, 0, 3, 4, 5, 6, 7, 8] rfl ?_
                refine g_iload O dL_areWaysSo_233 7 rfl ?_
                refine g_istore_n (L' := [(0, .ref (a 0)), (1, .int (nI ((10 * (10 * (tM wv * tM wv + tN wv * tN wv) + tS wv)) + (tM wv)))), (2, .int (nI ((cntB (fpP (p_s P)) wv) + 0))), (3, .int (nI 1)), (4, .int (nI wv)), (5, .int (nI (tM wv))), (6, .int (nI (tN wv))), (7, .int (nI ((10 * (10 * (tM wv * tM wv + tN wv * tN wv) + tS wv)) + (tM wv)))), (8, .int (nI 0))]) O dL_areWaysSo_235 rfl (by decide) [1, 0, 2, 3, 4, 5, 6, 7, 8] rfl ?_
                refine g_iincN (L' := [(0, .ref (a 0)), (1, .int (nI ((10 * (10 * (tM wv * tM wv + tN wv * tN wv) + tS wv)) + (tM wv)))), (2, .int (nI ((cntB (fpP (p_s P)) wv) + 0))), (3, .int (nI 1)), (4, .int (nI (wv + 1))), (5, .int (nI (tM wv))), (6, .int (nI (tN wv))), (7, .int (nI ((10 * (10 * (tM wv * tM wv + tN wv * tN wv) + tS wv)) + (tM wv)))), (8, .int (nI 0))]) O dL_areWaysSo_236 4 rfl (by decide) [1, 2, 3, 4, 0, 5, 6, 7, 8] rfl ?_
                refine g_goto (tgt := 24) O dL_areWaysSo_239 (by decide) ?_
                rw [Nat.add_zero, ← cntB_f (p := fpP (p_s P)) hfp]
                refine g_locals (L' := [(0, .ref (a 0)), (1, .int (nI ((10 * (10 * (tM wv * tM wv + tN wv * tN wv) + tS wv)) + (tM wv)))), (2, .int (nI (cntB (fpP (p_s P)) (wv + 1)))), (3, .int (nI 1)), (4, .int (nI (wv + 1)))]) [0, 1, 2, 3, 4] rfl ?_
                exact ih1 (wv + 1) J_85 (by omega) (by omega)
              ·
                refine g_iconst (x := (nI 1)) O dL_areWaysSo_174 (by decide +kernel) ?_
                refine g_goto (tgt := 179) O dL_areWaysSo_175 (by decide) ?_
                refine g_aload_n O dL_areWaysSo_179 0 rfl rfl ?_
                refine g_iload O dL_areWaysSo_180 4 rfl ?_
                refine g_iconst (x := (nI 4)) O dL_areWaysSo_182 (by decide +kernel) ?_
                refine g_callW (As := [.int (nI wv), .int (nI 4)]) (Aw := wX D a P J_80) O (X_way_4 l D z a P wv J_80 hI.1 hB (by first | omega | assumption)) gL_areWaysSo_X8_way rfl rfl rfl 2 (by decide +kernel) (by decide) (by decide) rfl rfl rfl rfl rfl (Nat.le_of_ble_eq_true rfl) dL_areWaysSo_183 (fun r9 w9 hp => ?_)
                obtain ⟨rfl, J_90, rfl⟩ := hp
                refine g_eq (st' := [.int (nI (cntB (fun p => stB (p_s P) wv p) 144)), .int (nI 1)]) (ws' := wX D a P J_90) rfl rfl rfl ?_
                refine g_if_neN (tgt := 193) O (by omega) dL_areWaysSo_186 (by decide) (fun c_91 => (by omega)) (fun c_91 => ?_)
                refine g_iconst (x := (nI 1)) O dL_areWaysSo_189 (by decide +kernel) ?_
                refine g_goto (tgt := 194) O dL_areWaysSo_190 (by decide) ?_
                refine g_icmp_neN (tgt := 218) O (by omega) (by omega) dL_areWaysSo_194 (by decide) (fun c_92 => absurd c_92 (by decide)) (fun c_92 => ?_)
                refine g_iload O dL_areWaysSo_197 8 rfl ?_
                refine g_if_eqN (tgt := 214) O (by omega) dL_areWaysSo_199 (by decide) (fun c_93 => ?_) (fun c_93 => absurd c_93 (by decide))
                refine g_iconst (x := (nI 1)) O dL_areWaysSo_214 (by decide +kernel) ?_
                refine g_goto (tgt := 219) O dL_areWaysSo_215 (by decide) ?_
                refine g_istore_n (L' := [(0, .ref (a 0)), (1, .int (nI (lsN wv))), (2, .int (nI (cntB (fpP (p_s P)) wv))), (3, .int (nI 1)), (4, .int (nI wv)), (5, .int (nI (tM wv))), (6, .int (nI (tN wv))), (7, .int (nI ((10 * (10 * (tM wv * tM wv + tN wv * tN wv) + tS wv)) + (tM wv)))), (8, .int (nI 0))]) O dL_areWaysSo_219 rfl (by decide) [1, 2, 3, 0, 4, 5, 6, 7, 8] rfl ?_
                refine g_iload_n O dL_areWaysSo_220 2 rfl rfl ?_
                refine g_iload O dL_areWaysSo_221 8 rfl ?_
                refine g_if_eqN (tgt := 230) O (by omega) dL_areWaysSo_223 (by decide) (fun c_94 => ?_) (fun c_94 => absurd c_94 (by decide))
                refine g_iconst (x := (nI 0)) O dL_areWaysSo_230 (by decide +kernel) ?_
                refine g_iaddN O dL_areWaysSo_231 ?_
                refine g_istore_n (L' := [(0, .ref (a 0)), (1, .int (nI (lsN wv))), (2, .int (nI ((cntB (fpP (p_s P)) wv) + 0))), (3, .int (nI 1)), (4, .int (nI wv)), (5, .int (nI (tM wv))), (6, .int (nI (tN wv))), (7, .int (nI ((10 * (10 * (tM wv * tM wv + tN wv * tN wv) + tS wv)) + (tM wv)))), (8, .int (nI 0))]) O dL_areWaysSo_232 rfl (by decide) [1, 2, 0, 3, 4, 5, 6, 7, 8] rfl ?_
                refine g_iload O dL_areWaysSo_233 7 rfl ?_
                refine g_istore_n (L' := [(0, .ref (a 0)), (1, .int (nI ((10 * (10 * (tM wv * tM wv + tN wv * tN wv) + tS wv)) + (tM wv)))), (2, .int (nI ((cntB (fpP (p_s P)) wv) + 0))), (3, .int (nI 1)), (4, .int (nI wv)), (5, .int (nI (tM wv))), (6, .int (nI (tN wv))), (7, .int (nI ((10 * (10 * (tM wv * tM wv + tN wv * tN wv) + tS wv)) + (tM wv)))), (8, .int (nI 0))]) O dL_areWaysSo_235 rfl (by decide) [1, 0, 2, 3, 4, 5, 6, 7, 8] rfl ?_
                refine g_iincN (L' := [(0, .ref (a 0)), (1, .int (nI ((10 * (10 * (tM wv * tM wv + tN wv * tN wv) + tS wv)) + (tM wv)))), (2, .int (nI ((cntB (fpP (p_s P)) wv) + 0))), (3, .int (nI 1)), (4, .int (nI (wv + 1))), (5, .int (nI (tM wv))), (6, .int (nI (tN wv))), (7, .int (nI ((10 * (10 * (tM wv * tM wv + tN wv * tN wv) + tS wv)) + (tM wv)))), (8, .int (nI 0))]) O dL_areWaysSo_236 4 rfl (by decide) [1, 2, 3, 4, 0, 5, 6, 7, 8] rfl ?_
                refine g_goto (tgt := 24) O dL_areWaysSo_239 (by decide) ?_
                rw [Nat.add_zero, ← cntB_f (p := fpP (p_s P)) hfp]
                refine g_locals (L' := [(0, .ref (a 0)), (1, .int (nI ((10 * (10 * (tM wv * tM wv + tN wv * tN wv) + tS wv)) + (tM wv)))), (2, .int (nI (cntB (fpP (p_s P)) (wv + 1)))), (3, .int (nI 1)), (4, .int (nI (wv + 1)))]) [0, 1, 2, 3, 4] rfl ?_
                exact ih1 (wv + 1) J_90 (by omega) (by omega)
            ·
              refine g_aload_n O dL_areWaysSo_137 0 rfl rfl ?_
              refine g_iload O dL_areWaysSo_138 4 rfl ?_
              refine g_iconst (x := (nI 2)) O dL_areWaysSo_140 (by decide +kernel) ?_
              refine g_callW (As := [.int (nI wv), .int (nI 2)]) (Aw := wX D a P J_69) O (X_way_2 l D z a P wv J_69 hI.1 hB (by first | omega | assumption)) gL_areWaysSo_X8_way rfl rfl rfl 2 (by decide +kernel) (by decide) (by decide) rfl rfl rfl rfl rfl (Nat.le_of_ble_eq_true rfl) dL_areWaysSo_141 (fun r9 w9 hp => ?_)
              obtain ⟨rfl, J_95, rfl⟩ := hp
              refine g_eq (st' := [.int (nI (tS wv))]) (ws' := wX D a P J_95) rfl rfl rfl ?_
              refine g_if_neN (tgt := 218) O (by omega) dL_areWaysSo_144 (by decide) (fun c_96 => (by omega)) (fun c_96 => ?_)
              refine g_aload_n O dL_areWaysSo_147 0 rfl rfl ?_
              refine g_iload O dL_areWaysSo_148 4 rfl ?_
              refine g_iconst (x := (nI 5)) O dL_areWaysSo_150 (by decide +kernel) ?_
              refine g_callW (As := [.int (nI wv), .int (nI 5)]) (Aw := wX D a P J_95) O (X_way_5 l D z a P wv J_95 hI.1 hB (by first | omega | assumption)) gL_areWaysSo_X8_way rfl rfl rfl 2 (by decide +kernel) (by decide) (by decide) rfl rfl rfl rfl rfl (Nat.le_of_ble_eq_true rfl) dL_areWaysSo_151 (fun r9 w9 hp => ?_)
              obtain ⟨rfl, J_97, rfl⟩ := hp
              refine g_eq (st' := [.int (nI ((lnF (p_s P) wv (vR (j_vt J_95)) (vC (j_vt J_95)) 144).2))]) (ws' := wX D a P J_97) rfl rfl rfl ?_
              have hl_99 := lnF_le (p_s P) wv (vR (j_vt J_95)) (vC (j_vt J_95)) 144
              have hp_100 := lnF_pos (s := (p_s P)) (w := wv) (r := vR (j_vt J_95)) (c := vC (j_vt J_95)) 144
              generalize ((lnF (p_s P) wv (vR (j_vt J_95)) (vC (j_vt J_95)) 144).2) = ln_98 at hl_99 hp_100 ⊢
              refine g_aload_n O dL_areWaysSo_154 0 rfl rfl ?_
              refine g_iload O dL_areWaysSo_155 4 rfl ?_
              refine g_iconst (x := (nI 4)) O dL_areWaysSo_157 (by decide +kernel) ?_
              refine g_callW (As := [.int (nI wv), .int (nI 4)]) (Aw := wX D a P J_97) O (X_way_4 l D z a P wv J_97 hI.1 hB (by first | omega | assumption)) gL_areWaysSo_X8_way rfl rfl rfl 2 (by decide +kernel) (by decide) (by decide) rfl rfl rfl rfl rfl (Nat.le_of_ble_eq_true rfl) dL_areWaysSo_158 (fun r9 w9 hp => ?_)
              obtain ⟨rfl, J_101, rfl⟩ := hp
              refine g_eq (st' := [.int (nI (cntB (fun p => stB (p_s P) wv p) 144)), .int (nI ln_98)]) (ws' := wX D a P J_101) rfl rfl rfl ?_
              refine g_icmp_gtN (tgt := 218) O (by omega) (by omega) dL_areWaysSo_161 (by decide) (fun c_102 => (by omega)) (fun c_102 => ?_)
              refine g_aload_n O dL_areWaysSo_164 0 rfl rfl ?_
              refine g_iload O dL_areWaysSo_165 4 rfl ?_
              refine g_iconst (x := (nI 5)) O dL_areWaysSo_167 (by decide +kernel) ?_
              refine g_callW (As := [.int (nI wv), .int (nI 5)]) (Aw := wX D a P J_101) O (X_way_5 l D z a P wv J_101 hI.1 hB (by first | omega | assumption)) gL_areWaysSo_X8_way rfl rfl rfl 2 (by decide +kernel) (by decide) (by decide) rfl rfl rfl rfl rfl (Nat.le_of_ble_eq_true rfl) dL_areWaysSo_168 (fun r9 w9 hp => ?_)
              obtain ⟨rfl, J_103, rfl⟩ := hp
              refine g_eq (st' := [.int (nI ((lnF (p_s P) wv (vR (j_vt J_101)) (vC (j_vt J_101)) 144).2))]) (ws' := wX D a P J_103) rfl rfl rfl ?_
              have hl_105 := lnF_le (p_s P) wv (vR (j_vt J_101)) (vC (j_vt J_101)) 144
              have hp_106 := lnF_pos (s := (p_s P)) (w := wv) (r := vR (j_vt J_101)) (c := vC (j_vt J_101)) 144
              generalize ((lnF (p_s P) wv (vR (j_vt J_101)) (vC (j_vt J_101)) 144).2) = ln_104 at hl_105 hp_106 ⊢
              refine g_if_neN (tgt := 178) O (by omega) dL_areWaysSo_171 (by decide) (fun c_107 => ?_) (fun c_107 => ?_)
              ·
                refine g_iconst (x := (nI 0)) O dL_areWaysSo_178 (by decide +kernel) ?_
                refine g_aload_n O dL_areWaysSo_179 0 rfl rfl ?_
                refine g_iload O dL_areWaysSo_180 4 rfl ?_
                refine g_iconst (x := (nI 4)) O dL_areWaysSo_182 (by decide +kernel) ?_
                refine g_callW (As := [.int (nI wv), .int (nI 4)]) (Aw := wX D a P J_103) O (X_way_4 l D z a P wv J_103 hI.1 hB (by first | omega | assumption)) gL_areWaysSo_X8_way rfl rfl rfl 2 (by decide +kernel) (by decide) (by decide) rfl rfl rfl rfl rfl (Nat.le_of_ble_eq_true rfl) dL_areWaysSo_183 (fun r9 w9 hp => ?_)
                obtain ⟨rfl, J_108, rfl⟩ := hp
                refine g_eq (st' := [.int (nI (cntB (fun p => stB (p_s P) wv p) 144)), .int (nI 0)]) (ws' := wX D a P J_108) rfl rfl rfl ?_
                refine g_if_neN (tgt := 193) O (by omega) dL_areWaysSo_186 (by decide) (fun c_109 => ?_) (fun c_109 => (by omega))
                refine g_iconst (x := (nI 0)) O dL_areWaysSo_193 (by decide +kernel) ?_
                refine g_icmp_neN (tgt := 218) O (by omega) (by omega) dL_areWaysSo_194 (by decide) (fun c_110 => absurd c_110 (by decide)) (fun c_110 => ?_)
                refine g_iload O dL_areWaysSo_197 8 rfl ?_
                refine g_if_eqN (tgt := 214) O (by omega) dL_areWaysSo_199 (by decide) (fun c_111 => ?_) (fun c_111 => absurd c_111 (by decide))
                refine g_iconst (x := (nI 1)) O dL_areWaysSo_214 (by decide +kernel) ?_
                refine g_goto (tgt := 219) O dL_areWaysSo_215 (by decide) ?_
                refine g_istore_n (L' := [(0, .ref (a 0)), (1, .int (nI (lsN wv))), (2, .int (nI (cntB (fpP (p_s P)) wv))), (3, .int (nI 1)), (4, .int (nI wv)), (5, .int (nI (tM wv))), (6, .int (nI (tN wv))), (7, .int (nI ((10 * (10 * (tM wv * tM wv + tN wv * tN wv) + tS wv)) + (tM wv)))), (8, .int (nI 0))]) O dL_areWaysSo_219 rfl (by decide) [1, 2, 3, 0, 4, 5, 6, 7, 8] rfl ?_
                refine g_iload_n O dL_areWaysSo_220 2 rfl rfl ?_
                refine g_iload O dL_areWaysSo_221 8 rfl ?_
                refine g_if_eqN (tgt := 230) O (by omega) dL_areWaysSo_223 (by decide) (fun c_112 => ?_) (fun c_112 => absurd c_112 (by decide))
                refine g_iconst (x := (nI 0)) O dL_areWaysSo_230 (by decide +kernel) ?_
                refine g_iaddN O dL_areWaysSo_231 ?_
                refine g_istore_n (L' := [(0, .ref (a 0)), (1, .int (nI (lsN wv))), (2, .int (nI ((cntB (fpP (p_s P)) wv) + 0))), (3, .int (nI 1)), (4, .int (nI wv)), (5, .int (nI (tM wv))), (6, .int (nI (tN wv))), (7, .int (nI ((10 * (10 * (tM wv * tM wv + tN wv * tN wv) + tS wv)) + (tM wv)))), (8, .int (nI 0))]) O dL_areWaysSo_232 rfl (by decide) [1, 2, 0, 3, 4, 5, 6, 7, 8] rfl ?_
                refine g_iload O dL_areWaysSo_233 7 rfl ?_
                refine g_istore_n (L' := [(0, .ref (a 0)), (1, .int (nI ((10 * (10 * (tM wv * tM wv + tN wv * tN wv) + tS wv)) + (tM wv)))), (2, .int (nI ((cntB (fpP (p_s P)) wv) + 0))), (3, .int (nI 1)), (4, .int (nI wv)), (5, .int (nI (tM wv))), (6, .int (nI (tN wv))), (7, .int (nI ((10 * (10 * (tM wv * tM wv + tN wv * tN wv) + tS wv)) + (tM wv)))), (8, .int (nI 0))]) O dL_areWaysSo_235 rfl (by decide) [1, 0, 2, 3, 4, 5, 6, 7, 8] rfl ?_
                refine g_iincN (L' := [(0, .ref (a 0)), (1, .int (nI ((10 * (10 * (tM wv * tM wv + tN wv * tN wv) + tS wv)) + (tM wv)))), (2, .int (nI ((cntB (fpP (p_s P)) wv) + 0))), (3, .int (nI 1)), (4, .int (nI (wv + 1))), (5, .int (nI (tM wv))), (6, .int (nI (tN wv))), (7, .int (nI ((10 * (10 * (tM wv * tM wv + tN wv * tN wv) + tS wv)) + (tM wv)))), (8, .int (nI 0))]) O dL_areWaysSo_236 4 rfl (by decide) [1, 2, 3, 4, 0, 5, 6, 7, 8] rfl ?_
                refine g_goto (tgt := 24) O dL_areWaysSo_239 (by decide) ?_
                rw [Nat.add_zero, ← cntB_f (p := fpP (p_s P)) hfp]
                refine g_locals (L' := [(0, .ref (a 0)), (1, .int (nI ((10 * (10 * (tM wv * tM wv + tN wv * tN wv) + tS wv)) + (tM wv)))), (2, .int (nI (cntB (fpP (p_s P)) (wv + 1)))), (3, .int (nI 1)), (4, .int (nI (wv + 1)))]) [0, 1, 2, 3, 4] rfl ?_
                exact ih1 (wv + 1) J_108 (by omega) (by omega)
              ·
                refine g_iconst (x := (nI 1)) O dL_areWaysSo_174 (by decide +kernel) ?_
                refine g_goto (tgt := 179) O dL_areWaysSo_175 (by decide) ?_
                refine g_aload_n O dL_areWaysSo_179 0 rfl rfl ?_
                refine g_iload O dL_areWaysSo_180 4 rfl ?_
                refine g_iconst (x := (nI 4)) O dL_areWaysSo_182 (by decide +kernel) ?_
                refine g_callW (As := [.int (nI wv), .int (nI 4)]) (Aw := wX D a P J_103) O (X_way_4 l D z a P wv J_103 hI.1 hB (by first | omega | assumption)) gL_areWaysSo_X8_way rfl rfl rfl 2 (by decide +kernel) (by decide) (by decide) rfl rfl rfl rfl rfl (Nat.le_of_ble_eq_true rfl) dL_areWaysSo_183 (fun r9 w9 hp => ?_)
                obtain ⟨rfl, J_113, rfl⟩ := hp
                refine g_eq (st' := [.int (nI (cntB (fun p => stB (p_s P) wv p) 144)), .int (nI 1)]) (ws' := wX D a P J_113) rfl rfl rfl ?_
                refine g_if_neN (tgt := 193) O (by omega) dL_areWaysSo_186 (by decide) (fun c_114 => (by omega)) (fun c_114 => ?_)
                refine g_iconst (x := (nI 1)) O dL_areWaysSo_189 (by decide +kernel) ?_
                refine g_goto (tgt := 194) O dL_areWaysSo_190 (by decide) ?_
                refine g_icmp_neN (tgt := 218) O (by omega) (by omega) dL_areWaysSo_194 (by decide) (fun c_115 => absurd c_115 (by decide)) (fun c_115 => ?_)
                refine g_iload O dL_areWaysSo_197 8 rfl ?_
                refine g_if_eqN (tgt := 214) O (by omega) dL_areWaysSo_199 (by decide) (fun c_116 => ?_) (fun c_116 => absurd c_116 (by decide))
                refine g_iconst (x := (nI 1)) O dL_areWaysSo_214 (by decide +kernel) ?_
                refine g_goto (tgt := 219) O dL_areWaysSo_215 (by decide) ?_
                refine g_istore_n (L' := [(0, .ref (a 0)), (1, .int (nI (lsN wv))), (2, .int (nI (cntB (fpP (p_s P)) wv))), (3, .int (nI 1)), (4, .int (nI wv)), (5, .int (nI (tM wv))), (6, .int (nI (tN wv))), (7, .int (nI ((10 * (10 * (tM wv * tM wv + tN wv * tN wv) + tS wv)) + (tM wv)))), (8, .int (nI 0))]) O dL_areWaysSo_219 rfl (by decide) [1, 2, 3, 0, 4, 5, 6, 7, 8] rfl ?_
                refine g_iload_n O dL_areWaysSo_220 2 rfl rfl ?_
                refine g_iload O dL_areWaysSo_221 8 rfl ?_
                refine g_if_eqN (tgt := 230) O (by omega) dL_areWaysSo_223 (by decide) (fun c_117 => ?_) (fun c_117 => absurd c_117 (by decide))
                refine g_iconst (x := (nI 0)) O dL_areWaysSo_230 (by decide +kernel) ?_
                refine g_iaddN O dL_areWaysSo_231 ?_
                refine g_istore_n (L' := [(0, .ref (a 0)), (1, .int (nI (lsN wv))), (2, .int (nI ((cntB (fpP (p_s P)) wv) + 0))), (3, .int (nI 1)), (4, .int (nI wv)), (5, .int (nI (tM wv))), (6, .int (nI (tN wv))), (7, .int (nI ((10 * (10 * (tM wv * tM wv + tN wv * tN wv) + tS wv)) + (tM wv)))), (8, .int (nI 0))]) O dL_areWaysSo_232 rfl (by decide) [1, 2, 0, 3, 4, 5, 6, 7, 8] rfl ?_
                refine g_iload O dL_areWaysSo_233 7 rfl ?_
                refine g_istore_n (L' := [(0, .ref (a 0)), (1, .int (nI ((10 * (10 * (tM wv * tM wv + tN wv * tN wv) + tS wv)) + (tM wv)))), (2, .int (nI ((cntB (fpP (p_s P)) wv) + 0))), (3, .int (nI 1)), (4, .int (nI wv)), (5, .int (nI (tM wv))), (6, .int (nI (tN wv))), (7, .int (nI ((10 * (10 * (tM wv * tM wv + tN wv * tN wv) + tS wv)) + (tM wv)))), (8, .int (nI 0))]) O dL_areWaysSo_235 rfl (by decide) [1, 0, 2, 3, 4, 5, 6, 7, 8] rfl ?_
                refine g_iincN (L' := [(0, .ref (a 0)), (1, .int (nI ((10 * (10 * (tM wv * tM wv + tN wv * tN wv) + tS wv)) + (tM wv)))), (2, .int (nI ((cntB (fpP (p_s P)) wv) + 0))), (3, .int (nI 1)), (4, .int (nI (wv + 1))), (5, .int (nI (tM wv))), (6, .int (nI (tN wv))), (7, .int (nI ((10 * (10 * (tM wv * tM wv + tN wv * tN wv) + tS wv)) + (tM wv)))), (8, .int (nI 0))]) O dL_areWaysSo_236 4 rfl (by decide) [1, 2, 3, 4, 0, 5, 6, 7, 8] rfl ?_
                refine g_goto (tgt := 24) O dL_areWaysSo_239 (by decide) ?_
                rw [Nat.add_zero, ← cntB_f (p := fpP (p_s P)) hfp]
                refine g_locals (L' := [(0, .ref (a 0)), (1, .int (nI ((10 * (10 * (tM wv * tM wv + tN wv * tN wv) + tS wv)) + (tM wv)))), (2, .int (nI (cntB (fpP (p_s P)) (wv + 1)))), (3, .int (nI 1)), (4, .int (nI (wv + 1)))]) [0, 1, 2, 3, 4] rfl ?_
                exact ih1 (wv + 1) J_113 (by omega) (by omega)
        ·
          have hlt := (pos_t (f := fun _ => 0) (show wv < 48 by omega) hfp).1
          refine g_aload_n O dL_areWaysSo_64 0 rfl rfl ?_
          refine g_iload_n O dL_areWaysSo_65 2 rfl rfl ?_
          refine g_callW (As := [.int (nI (cntB (fpP (p_s P)) wv))]) (Aw := wX D a P J_11) O (X_possible_ok l D z a P (cntB (fpP (p_s P)) wv) J_11 hI.1 hB (by first | omega | assumption)) gL_areWaysSo_X8_possible rfl rfl rfl 1 (by decide +kernel) (by decide) (by decide) rfl rfl rfl rfl rfl (Nat.le_of_ble_eq_true rfl) dL_areWaysSo_66 (fun r9 w9 hp => ?_)
          obtain ⟨rfl, J_118, rfl⟩ := hp
          refine g_eq (st' := [.int (nI (fpF (p_s P) (j_pf J_11) 48 (cntB (fpP (p_s P)) wv)))]) (ws' := wX D a P J_118) rfl rfl rfl ?_
          refine g_eq (st' := [.int (nI wv)]) (by rw [(pos_t (show wv < 48 by omega) hfp).2]) rfl rfl ?_
          refine g_iload O dL_areWaysSo_69 4 rfl ?_
          refine g_icmp_neN (tgt := 78) O (by omega) (by omega) dL_areWaysSo_71 (by decide) (fun c_119 => (by exact absurd rfl c_119)) (fun c_119 => ?_)
          refine g_iconst (x := (nI 1)) O dL_areWaysSo_74 (by decide +kernel) ?_
          refine g_goto (tgt := 79) O dL_areWaysSo_75 (by decide) ?_
          refine g_istore (L' := [(0, .ref (a 0)), (1, .int (nI (lsN wv))), (2, .int (nI (cntB (fpP (p_s P)) wv))), (3, .int (nI 1)), (4, .int (nI wv)), (5, .int (nI (tM wv))), (6, .int (nI (tN wv))), (7, .int (nI ((10 * (10 * (tM wv * tM wv + tN wv * tN wv) + tS wv)) + (tM wv)))), (8, .int (nI 1))]) O dL_areWaysSo_79 (by decide) [1, 2, 3, 4, 5, 6, 7, 8, 0] rfl ?_
          refine g_iload_n O dL_areWaysSo_81 3 rfl rfl ?_
          refine g_if_eqN (tgt := 218) O (by omega) dL_areWaysSo_82 (by decide) (fun c_120 => absurd c_120 (by decide)) (fun c_120 => ?_)
          refine g_aload_n O dL_areWaysSo_85 0 rfl rfl ?_
          refine g_iload O dL_areWaysSo_86 4 rfl ?_
          refine g_iconst (x := (nI 3)) O dL_areWaysSo_88 (by decide +kernel) ?_
          refine g_callW (As := [.int (nI wv), .int (nI 3)]) (Aw := wX D a P J_118) O (X_way_3 l D z a P wv J_118 hI.1 hB (by first | omega | assumption)) gL_areWaysSo_X8_way rfl rfl rfl 2 (by decide +kernel) (by decide) (by decide) rfl rfl rfl rfl rfl (Nat.le_of_ble_eq_true rfl) dL_areWaysSo_89 (fun r9 w9 hp => ?_)
          obtain ⟨rfl, J_121, rfl⟩ := hp
          refine g_eq (st' := [.int (nI (10 * (tM wv * tM wv + tN wv * tN wv) + tS wv))]) (ws' := wX D a P J_121) rfl rfl rfl ?_
          refine g_bipush (x := (nI 10)) O dL_areWaysSo_92 (by decide +kernel) ?_
          refine g_iload O dL_areWaysSo_94 5 rfl ?_
          refine g_iload O dL_areWaysSo_96 5 rfl ?_
          refine g_imulN O dL_areWaysSo_98 ?_
          refine g_iload O dL_areWaysSo_99 6 rfl ?_
          refine g_iload O dL_areWaysSo_101 6 rfl ?_
          refine g_imulN O dL_areWaysSo_103 ?_
          refine g_iaddN O dL_areWaysSo_104 ?_
          refine g_imulN O dL_areWaysSo_105 ?_
          refine g_aload_n O dL_areWaysSo_106 0 rfl rfl ?_
          refine g_iload O dL_areWaysSo_107 4 rfl ?_
          refine g_iconst (x := (nI 2)) O dL_areWaysSo_109 (by decide +kernel) ?_
          refine g_callW (As := [.int (nI wv), .int (nI 2)]) (Aw := wX D a P J_121) O (X_way_2 l D z a P wv J_121 hI.1 hB (by first | omega | assumption)) gL_areWaysSo_X8_way rfl rfl rfl 2 (by decide +kernel) (by decide) (by decide) rfl rfl rfl rfl rfl (Nat.le_of_ble_eq_true rfl) dL_areWaysSo_110 (fun r9 w9 hp => ?_)
          obtain ⟨rfl, J_122, rfl⟩ := hp
          refine g_eq (st' := [.int (nI (tS wv)), .int (nI (10 * (((tM wv) * (tM wv)) + ((tN wv) * (tN wv))))), .int (nI (10 * (tM wv * tM wv + tN wv * tN wv) + tS wv))]) (ws' := wX D a P J_122) rfl rfl rfl ?_
          refine g_iaddN O dL_areWaysSo_113 ?_
          refine g_icmp_neN (tgt := 218) O (by omega) (by omega) dL_areWaysSo_114 (by decide) (fun c_123 => (by exact absurd rfl c_123)) (fun c_123 => ?_)
          refine g_iload O dL_areWaysSo_117 7 rfl ?_
          refine g_iload_n O dL_areWaysSo_119 1 rfl rfl ?_
          refine g_icmp_leN (tgt := 218) O (by omega) (by omega) dL_areWaysSo_120 (by decide) (fun c_124 => (by omega)) (fun c_124 => ?_)
          refine g_iload O dL_areWaysSo_123 5 rfl ?_
          refine g_iload O dL_areWaysSo_125 6 rfl ?_
          refine g_icmp_gtN (tgt := 218) O (by omega) (by omega) dL_areWaysSo_127 (by decide) (fun c_125 => (by omega)) (fun c_125 => ?_)
          refine g_iload O dL_areWaysSo_130 5 rfl ?_
          refine g_iload O dL_areWaysSo_132 6 rfl ?_
          refine g_icmp_ltN (tgt := 147) O (by omega) (by omega) dL_areWaysSo_134 (by decide) (fun c_126 => ?_) (fun c_126 => ?_)
          ·
            refine g_aload_n O dL_areWaysSo_147 0 rfl rfl ?_
            refine g_iload O dL_areWaysSo_148 4 rfl ?_
            refine g_iconst (x := (nI 5)) O dL_areWaysSo_150 (by decide +kernel) ?_
            refine g_callW (As := [.int (nI wv), .int (nI 5)]) (Aw := wX D a P J_122) O (X_way_5 l D z a P wv J_122 hI.1 hB (by first | omega | assumption)) gL_areWaysSo_X8_way rfl rfl rfl 2 (by decide +kernel) (by decide) (by decide) rfl rfl rfl rfl rfl (Nat.le_of_ble_eq_true rfl) dL_areWaysSo_151 (fun r9 w9 hp => ?_)
            obtain ⟨rfl, J_127, rfl⟩ := hp
            refine g_eq (st' := [.int (nI ((lnF (p_s P) wv (vR (j_vt J_122)) (vC (j_vt J_122)) 144).2))]) (ws' := wX D a P J_127) rfl rfl rfl ?_
            have hl_129 := lnF_le (p_s P) wv (vR (j_vt J_122)) (vC (j_vt J_122)) 144
            have hp_130 := lnF_pos (s := (p_s P)) (w := wv) (r := vR (j_vt J_122)) (c := vC (j_vt J_122)) 144
            generalize ((lnF (p_s P) wv (vR (j_vt J_122)) (vC (j_vt J_122)) 144).2) = ln_128 at hl_129 hp_130 ⊢
            refine g_aload_n O dL_areWaysSo_154 0 rfl rfl ?_
            refine g_iload O dL_areWaysSo_155 4 rfl ?_
            refine g_iconst (x := (nI 4)) O dL_areWaysSo_157 (by decide +kernel) ?_
            refine g_callW (As := [.int (nI wv), .int (nI 4)]) (Aw := wX D a P J_127) O (X_way_4 l D z a P wv J_127 hI.1 hB (by first | omega | assumption)) gL_areWaysSo_X8_way rfl rfl rfl 2 (by decide +kernel) (by decide) (by decide) rfl rfl rfl rfl rfl (Nat.le_of_ble_eq_true rfl) dL_areWaysSo_158 (fun r9 w9 hp => ?_)
            obtain ⟨rfl, J_131, rfl⟩ := hp
            refine g_eq (st' := [.int (nI (cntB (fun p => stB (p_s P) wv p) 144)), .int (nI ln_128)]) (ws' := wX D a P J_131) rfl rfl rfl ?_
            refine g_icmp_gtN (tgt := 218) O (by omega) (by omega) dL_areWaysSo_161 (by decide) (fun c_132 => (by omega)) (fun c_132 => ?_)
            refine g_aload_n O dL_areWaysSo_164 0 rfl rfl ?_
            refine g_iload O dL_areWaysSo_165 4 rfl ?_
            refine g_iconst (x := (nI 5)) O dL_areWaysSo_167 (by decide +kernel) ?_
            refine g_callW (As := [.int (nI wv), .int (nI 5)]) (Aw := wX D a P J_131) O (X_way_5 l D z a P wv J_131 hI.1 hB (by first | omega | assumption)) gL_areWaysSo_X8_way rfl rfl rfl 2 (by decide +kernel) (by decide) (by decide) rfl rfl rfl rfl rfl (Nat.le_of_ble_eq_true rfl) dL_areWaysSo_168 (fun r9 w9 hp => ?_)
            obtain ⟨rfl, J_133, rfl⟩ := hp
            refine g_eq (st' := [.int (nI ((lnF (p_s P) wv (vR (j_vt J_131)) (vC (j_vt J_131)) 144).2))]) (ws' := wX D a P J_133) rfl rfl rfl ?_
            have hl_135 := lnF_le (p_s P) wv (vR (j_vt J_131)) (vC (j_vt J_131)) 144
            have hp_136 := lnF_pos (s := (p_s P)) (w := wv) (r := vR (j_vt J_131)) (c := vC (j_vt J_131)) 144
            generalize ((lnF (p_s P) wv (vR (j_vt J_131)) (vC (j_vt J_131)) 144).2) = ln_134 at hl_135 hp_136 ⊢
            refine g_if_neN (tgt := 178) O (by omega) dL_areWaysSo_171 (by decide) (fun c_137 => ?_) (fun c_137 => ?_)
            ·
              refine g_iconst (x := (nI 0)) O dL_areWaysSo_178 (by decide +kernel) ?_
              refine g_aload_n O dL_areWaysSo_179 0 rfl rfl ?_
              refine g_iload O dL_areWaysSo_180 4 rfl ?_
              refine g_iconst (x := (nI 4)) O dL_areWaysSo_182 (by decide +kernel) ?_
              refine g_callW (As := [.int (nI wv), .int (nI 4)]) (Aw := wX D a P J_133) O (X_way_4 l D z a P wv J_133 hI.1 hB (by first | omega | assumption)) gL_areWaysSo_X8_way rfl rfl rfl 2 (by decide +kernel) (by decide) (by decide) rfl rfl rfl rfl rfl (Nat.le_of_ble_eq_true rfl) dL_areWaysSo_183 (fun r9 w9 hp => ?_)
              obtain ⟨rfl, J_138, rfl⟩ := hp
              refine g_eq (st' := [.int (nI (cntB (fun p => stB (p_s P) wv p) 144)), .int (nI 0)]) (ws' := wX D a P J_138) rfl rfl rfl ?_
              refine g_if_neN (tgt := 193) O (by omega) dL_areWaysSo_186 (by decide) (fun c_139 => ?_) (fun c_139 => (by omega))
              refine g_iconst (x := (nI 0)) O dL_areWaysSo_193 (by decide +kernel) ?_
              refine g_icmp_neN (tgt := 218) O (by omega) (by omega) dL_areWaysSo_194 (by decide) (fun c_140 => absurd c_140 (by decide)) (fun c_140 => ?_)
              refine g_iload O dL_areWaysSo_197 8 rfl ?_
              refine g_if_eqN (tgt := 214) O (by omega) dL_areWaysSo_199 (by decide) (fun c_141 => absurd c_141 (by decide)) (fun c_141 => ?_)
              refine g_aload_n O dL_areWaysSo_202 0 rfl rfl ?_
              refine g_iload O dL_areWaysSo_203 4 rfl ?_
              refine g_bipush (x := (nI 7)) O dL_areWaysSo_205 (by decide +kernel) ?_
              refine g_callW (As := [.int (nI wv), .int (nI 7)]) (Aw := wX D a P J_138) O (X_way_7 l D z a P wv J_138 hI.1 hB (by first | omega | assumption)) gL_areWaysSo_X8_way rfl rfl rfl 2 (by decide +kernel) (by decide) (by decide) rfl rfl rfl rfl rfl (Nat.le_of_ble_eq_true rfl) dL_areWaysSo_207 (fun r9 w9 hp => ?_)
              obtain ⟨rfl, J_142, rfl⟩ := hp
              refine g_eq (st' := [.int (bB (clB (p_s P) wv))]) (ws' := wX D a P J_142) rfl rfl rfl ?_
              refine g_iconst (x := (nI 1)) O dL_areWaysSo_210 (by decide +kernel) ?_
              refine g_icmp_ne (tgt := 218) O dL_areWaysSo_211 (by decide) (fun c_143 => (by exact absurd (by rw [fpP_cl hfp]; rfl) c_143)) (fun c_143 => ?_)
              refine g_iconst (x := (nI 1)) O dL_areWaysSo_214 (by decide +kernel) ?_
              refine g_goto (tgt := 219) O dL_areWaysSo_215 (by decide) ?_
              refine g_istore_n (L' := [(0, .ref (a 0)), (1, .int (nI (lsN wv))), (2, .int (nI (cntB (fpP (p_s P)) wv))), (3, .int (nI 1)), (4, .int (nI wv)), (5, .int (nI (tM wv))), (6, .int (nI (tN wv))), (7, .int (nI ((10 * (10 * (tM wv * tM wv + tN wv * tN wv) + tS wv)) + (tM wv)))), (8, .int (nI 1))]) O dL_areWaysSo_219 rfl (by decide) [1, 2, 3, 0, 4, 5, 6, 7, 8] rfl ?_
              refine g_iload_n O dL_areWaysSo_220 2 rfl rfl ?_
              refine g_iload O dL_areWaysSo_221 8 rfl ?_
              refine g_if_eqN (tgt := 230) O (by omega) dL_areWaysSo_223 (by decide) (fun c_144 => absurd c_144 (by decide)) (fun c_144 => ?_)
              refine g_iconst (x := (nI 1)) O dL_areWaysSo_226 (by decide +kernel) ?_
              refine g_goto (tgt := 231) O dL_areWaysSo_227 (by decide) ?_
              refine g_iaddN O dL_areWaysSo_231 ?_
              refine g_istore_n (L' := [(0, .ref (a 0)), (1, .int (nI (lsN wv))), (2, .int (nI ((cntB (fpP (p_s P)) wv) + 1))), (3, .int (nI 1)), (4, .int (nI wv)), (5, .int (nI (tM wv))), (6, .int (nI (tN wv))), (7, .int (nI ((10 * (10 * (tM wv * tM wv + tN wv * tN wv) + tS wv)) + (tM wv)))), (8, .int (nI 1))]) O dL_areWaysSo_232 rfl (by decide) [1, 2, 0, 3, 4, 5, 6, 7, 8] rfl ?_
              refine g_iload O dL_areWaysSo_233 7 rfl ?_
              refine g_istore_n (L' := [(0, .ref (a 0)), (1, .int (nI ((10 * (10 * (tM wv * tM wv + tN wv * tN wv) + tS wv)) + (tM wv)))), (2, .int (nI ((cntB (fpP (p_s P)) wv) + 1))), (3, .int (nI 1)), (4, .int (nI wv)), (5, .int (nI (tM wv))), (6, .int (nI (tN wv))), (7, .int (nI ((10 * (10 * (tM wv * tM wv + tN wv * tN wv) + tS wv)) + (tM wv)))), (8, .int (nI 1))]) O dL_areWaysSo_235 rfl (by decide) [1, 0, 2, 3, 4, 5, 6, 7, 8] rfl ?_
              refine g_iincN (L' := [(0, .ref (a 0)), (1, .int (nI ((10 * (10 * (tM wv * tM wv + tN wv * tN wv) + tS wv)) + (tM wv)))), (2, .int (nI ((cntB (fpP (p_s P)) wv) + 1))), (3, .int (nI 1)), (4, .int (nI (wv + 1))), (5, .int (nI (tM wv))), (6, .int (nI (tN wv))), (7, .int (nI ((10 * (10 * (tM wv * tM wv + tN wv * tN wv) + tS wv)) + (tM wv)))), (8, .int (nI 1))]) O dL_areWaysSo_236 4 rfl (by decide) [1, 2, 3, 4, 0, 5, 6, 7, 8] rfl ?_
              refine g_goto (tgt := 24) O dL_areWaysSo_239 (by decide) ?_
              rw [← cntB_t hfp]
              refine g_locals (L' := [(0, .ref (a 0)), (1, .int (nI ((10 * (10 * (tM wv * tM wv + tN wv * tN wv) + tS wv)) + (tM wv)))), (2, .int (nI (cntB (fpP (p_s P)) (wv + 1)))), (3, .int (nI 1)), (4, .int (nI (wv + 1)))]) [0, 1, 2, 3, 4] rfl ?_
              exact ih1 (wv + 1) J_142 (by omega) (by omega)
            ·
              refine g_iconst (x := (nI 1)) O dL_areWaysSo_174 (by decide +kernel) ?_
              refine g_goto (tgt := 179) O dL_areWaysSo_175 (by decide) ?_
              refine g_aload_n O dL_areWaysSo_179 0 rfl rfl ?_
              refine g_iload O dL_areWaysSo_180 4 rfl ?_
              refine g_iconst (x := (nI 4)) O dL_areWaysSo_182 (by decide +kernel) ?_
              refine g_callW (As := [.int (nI wv), .int (nI 4)]) (Aw := wX D a P J_133) O (X_way_4 l D z a P wv J_133 hI.1 hB (by first | omega | assumption)) gL_areWaysSo_X8_way rfl rfl rfl 2 (by decide +kernel) (by decide) (by decide) rfl rfl rfl rfl rfl (Nat.le_of_ble_eq_true rfl) dL_areWaysSo_183 (fun r9 w9 hp => ?_)
              obtain ⟨rfl, J_145, rfl⟩ := hp
              refine g_eq (st' := [.int (nI (cntB (fun p => stB (p_s P) wv p) 144)), .int (nI 1)]) (ws' := wX D a P J_145) rfl rfl rfl ?_
              refine g_if_neN (tgt := 193) O (by omega) dL_areWaysSo_186 (by decide) (fun c_146 => (by omega)) (fun c_146 => ?_)
              refine g_iconst (x := (nI 1)) O dL_areWaysSo_189 (by decide +kernel) ?_
              refine g_goto (tgt := 194) O dL_areWaysSo_190 (by decide) ?_
              refine g_icmp_neN (tgt := 218) O (by omega) (by omega) dL_areWaysSo_194 (by decide) (fun c_147 => absurd c_147 (by decide)) (fun c_147 => ?_)
              refine g_iload O dL_areWaysSo_197 8 rfl ?_
              refine g_if_eqN (tgt := 214) O (by omega) dL_areWaysSo_199 (by decide) (fun c_148 => absurd c_148 (by decide)) (fun c_148 => ?_)
              refine g_aload_n O dL_areWaysSo_202 0 rfl rfl ?_
              refine g_iload O dL_areWaysSo_203 4 rfl ?_
              refine g_bipush (x := (nI 7)) O dL_areWaysSo_205 (by decide +kernel) ?_
              refine g_callW (As := [.int (nI wv), .int (nI 7)]) (Aw := wX D a P J_145) O (X_way_7 l D z a P wv J_145 hI.1 hB (by first | omega | assumption)) gL_areWaysSo_X8_way rfl rfl rfl 2 (by decide +kernel) (by decide) (by decide) rfl rfl rfl rfl rfl (Nat.le_of_ble_eq_true rfl) dL_areWaysSo_207 (fun r9 w9 hp => ?_)
              obtain ⟨rfl, J_149, rfl⟩ := hp
              refine g_eq (st' := [.int (bB (clB (p_s P) wv))]) (ws' := wX D a P J_149) rfl rfl rfl ?_
              refine g_iconst (x := (nI 1)) O dL_areWaysSo_210 (by decide +kernel) ?_
              refine g_icmp_ne (tgt := 218) O dL_areWaysSo_211 (by decide) (fun c_150 => (by exact absurd (by rw [fpP_cl hfp]; rfl) c_150)) (fun c_150 => ?_)
              refine g_iconst (x := (nI 1)) O dL_areWaysSo_214 (by decide +kernel) ?_
              refine g_goto (tgt := 219) O dL_areWaysSo_215 (by decide) ?_
              refine g_istore_n (L' := [(0, .ref (a 0)), (1, .int (nI (lsN wv))), (2, .int (nI (cntB (fpP (p_s P)) wv))), (3, .int (nI 1)), (4, .int (nI wv)), (5, .int (nI (tM wv))), (6, .int (nI (tN wv))), (7, .int (nI ((10 * (10 * (tM wv * tM wv + tN wv * tN wv) + tS wv)) + (tM wv)))), (8, .int (nI 1))]) O dL_areWaysSo_219 rfl (by decide) [1, 2, 3, 0, 4, 5, 6, 7, 8] rfl ?_
              refine g_iload_n O dL_areWaysSo_220 2 rfl rfl ?_
              refine g_iload O dL_areWaysSo_221 8 rfl ?_
              refine g_if_eqN (tgt := 230) O (by omega) dL_areWaysSo_223 (by decide) (fun c_151 => absurd c_151 (by decide)) (fun c_151 => ?_)
              refine g_iconst (x := (nI 1)) O dL_areWaysSo_226 (by decide +kernel) ?_
              refine g_goto (tgt := 231) O dL_areWaysSo_227 (by decide) ?_
              refine g_iaddN O dL_areWaysSo_231 ?_
              refine g_istore_n (L' := [(0, .ref (a 0)), (1, .int (nI (lsN wv))), (2, .int (nI ((cntB (fpP (p_s P)) wv) + 1))), (3, .int (nI 1)), (4, .int (nI wv)), (5, .int (nI (tM wv))), (6, .int (nI (tN wv))), (7, .int (nI ((10 * (10 * (tM wv * tM wv + tN wv * tN wv) + tS wv)) + (tM wv)))), (8, .int (nI 1))]) O dL_areWaysSo_232 rfl (by decide) [1, 2, 0, 3, 4, 5, 6, 7, 8] rfl ?_
              refine g_iload O dL_areWaysSo_233 7 rfl ?_
              refine g_istore_n (L' := [(0, .ref (a 0)), (1, .int (nI ((10 * (10 * (tM wv * tM wv + tN wv * tN wv) + tS wv)) + (tM wv)))), (2, .int (nI ((cntB (fpP (p_s P)) wv) + 1))), (3, .int (nI 1)), (4, .int (nI wv)), (5, .int (nI (tM wv))), (6, .int (nI (tN wv))), (7, .int (nI ((10 * (10 * (tM wv * tM wv + tN wv * tN wv) + tS wv)) + (tM wv)))), (8, .int (nI 1))]) O dL_areWaysSo_235 rfl (by decide) [1, 0, 2, 3, 4, 5, 6, 7, 8] rfl ?_
              refine g_iincN (L' := [(0, .ref (a 0)), (1, .int (nI ((10 * (10 * (tM wv * tM wv + tN wv * tN wv) + tS wv)) + (tM wv)))), (2, .int (nI ((cntB (fpP (p_s P)) wv) + 1))), (3, .int (nI 1)), (4, .int (nI (wv + 1))), (5, .int (nI (tM wv))), (6, .int (nI (tN wv))), (7, .int (nI ((10 * (10 * (tM wv * tM wv + tN wv * tN wv) + tS wv)) + (tM wv)))), (8, .int (nI 1))]) O dL_areWaysSo_236 4 rfl (by decide) [1, 2, 3, 4, 0, 5, 6, 7, 8] rfl ?_
              refine g_goto (tgt := 24) O dL_areWaysSo_239 (by decide) ?_
              rw [← cntB_t hfp]
              refine g_locals (L' := [(0, .ref (a 0)), (1, .int (nI ((10 * (10 * (tM wv * tM wv + tN wv * tN wv) + tS wv)) + (tM wv)))), (2, .int (nI (cntB (fpP (p_s P)) (wv + 1)))), (3, .int (nI 1)), (4, .int (nI (wv + 1)))]) [0, 1, 2, 3, 4] rfl ?_
              exact ih1 (wv + 1) J_149 (by omega) (by omega)
          ·
            refine g_aload_n O dL_areWaysSo_137 0 rfl rfl ?_
            refine g_iload O dL_areWaysSo_138 4 rfl ?_
            refine g_iconst (x := (nI 2)) O dL_areWaysSo_140 (by decide +kernel) ?_
            refine g_callW (As := [.int (nI wv), .int (nI 2)]) (Aw := wX D a P J_122) O (X_way_2 l D z a P wv J_122 hI.1 hB (by first | omega | assumption)) gL_areWaysSo_X8_way rfl rfl rfl 2 (by decide +kernel) (by decide) (by decide) rfl rfl rfl rfl rfl (Nat.le_of_ble_eq_true rfl) dL_areWaysSo_141 (fun r9 w9 hp => ?_)
            obtain ⟨rfl, J_152, rfl⟩ := hp
            refine g_eq (st' := [.int (nI (tS wv))]) (ws' := wX D a P J_152) rfl rfl rfl ?_
            refine g_if_neN (tgt := 218) O (by omega) dL_areWaysSo_144 (by decide) (fun c_153 => (by omega)) (fun c_153 => ?_)
            refine g_aload_n O dL_areWaysSo_147 0 rfl rfl ?_
            refine g_iload O dL_areWaysSo_148 4 rfl ?_
            refine g_iconst (x := (nI 5)) O dL_areWaysSo_150 (by decide +kernel) ?_
            refine g_callW (As := [.int (nI wv), .int (nI 5)]) (Aw := wX D a P J_152) O (X_way_5 l D z a P wv J_152 hI.1 hB (by first | omega | assumption)) gL_areWaysSo_X8_way rfl rfl rfl 2 (by decide +kernel) (by decide) (by decide) rfl rfl rfl rfl rfl (Nat.le_of_ble_eq_true rfl) dL_areWaysSo_151 (fun r9 w9 hp => ?_)
            obtain ⟨rfl, J_154, rfl⟩ := hp
            refine g_eq (st' := [.int (nI ((lnF (p_s P) wv (vR (j_vt J_152)) (vC (j_vt J_152)) 144).2))]) (ws' := wX D a P J_154) rfl rfl rfl ?_
            have hl_156 := lnF_le (p_s P) wv (vR (j_vt J_152)) (vC (j_vt J_152)) 144
            have hp_157 := lnF_pos (s := (p_s P)) (w := wv) (r := vR (j_vt J_152)) (c := vC (j_vt J_152)) 144
            generalize ((lnF (p_s P) wv (vR (j_vt J_152)) (vC (j_vt J_152)) 144).2) = ln_155 at hl_156 hp_157 ⊢
            refine g_aload_n O dL_areWaysSo_154 0 rfl rfl ?_
            refine g_iload O dL_areWaysSo_155 4 rfl ?_
            refine g_iconst (x := (nI 4)) O dL_areWaysSo_157 (by decide +kernel) ?_
            refine g_callW (As := [.int (nI wv), .int (nI 4)]) (Aw := wX D a P J_154) O (X_way_4 l D z a P wv J_154 hI.1 hB (by first | omega | assumption)) gL_areWaysSo_X8_way rfl rfl rfl 2 (by decide +kernel) (by decide) (by decide) rfl rfl rfl rfl rfl (Nat.le_of_ble_eq_true rfl) dL_areWaysSo_158 (fun r9 w9 hp => ?_)
            obtain ⟨rfl, J_158, rfl⟩ := hp
            refine g_eq (st' := [.int (nI (cntB (fun p => stB (p_s P) wv p) 144)), .int (nI ln_155)]) (ws' := wX D a P J_158) rfl rfl rfl ?_
            refine g_icmp_gtN (tgt := 218) O (by omega) (by omega) dL_areWaysSo_161 (by decide) (fun c_159 => (by omega)) (fun c_159 => ?_)
            refine g_aload_n O dL_areWaysSo_164 0 rfl rfl ?_
            refine g_iload O dL_areWaysSo_165 4 rfl ?_
            refine g_iconst (x := (nI 5)) O dL_areWaysSo_167 (by decide +kernel) ?_
            refine g_callW (As := [.int (nI wv), .int (nI 5)]) (Aw := wX D a P J_158) O (X_way_5 l D z a P wv J_158 hI.1 hB (by first | omega | assumption)) gL_areWaysSo_X8_way rfl rfl rfl 2 (by decide +kernel) (by decide) (by decide) rfl rfl rfl rfl rfl (Nat.le_of_ble_eq_true rfl) dL_areWaysSo_168 (fun r9 w9 hp => ?_)
            obtain ⟨rfl, J_160, rfl⟩ := hp
            refine g_eq (st' := [.int (nI ((lnF (p_s P) wv (vR (j_vt J_158)) (vC (j_vt J_158)) 144).2))]) (ws' := wX D a P J_160) rfl rfl rfl ?_
            have hl_162 := lnF_le (p_s P) wv (vR (j_vt J_158)) (vC (j_vt J_158)) 144
            have hp_163 := lnF_pos (s := (p_s P)) (w := wv) (r := vR (j_vt J_158)) (c := vC (j_vt J_158)) 144
            generalize ((lnF (p_s P) wv (vR (j_vt J_158)) (vC (j_vt J_158)) 144).2) = ln_161 at hl_162 hp_163 ⊢
            refine g_if_neN (tgt := 178) O (by omega) dL_areWaysSo_171 (by decide) (fun c_164 => ?_) (fun c_164 => ?_)
            ·
              refine g_iconst (x := (nI 0)) O dL_areWaysSo_178 (by decide +kernel) ?_
              refine g_aload_n O dL_areWaysSo_179 0 rfl rfl ?_
              refine g_iload O dL_areWaysSo_180 4 rfl ?_
              refine g_iconst (x := (nI 4)) O dL_areWaysSo_182 (by decide +kernel) ?_
              refine g_callW (As := [.int (nI wv), .int (nI 4)]) (Aw := wX D a P J_160) O (X_way_4 l D z a P wv J_160 hI.1 hB (by first | omega | assumption)) gL_areWaysSo_X8_way rfl rfl rfl 2 (by decide +kernel) (by decide) (by decide) rfl rfl rfl rfl rfl (Nat.le_of_ble_eq_true rfl) dL_areWaysSo_183 (fun r9 w9 hp => ?_)
              obtain ⟨rfl, J_165, rfl⟩ := hp
              refine g_eq (st' := [.int (nI (cntB (fun p => stB (p_s P) wv p) 144)), .int (nI 0)]) (ws' := wX D a P J_165) rfl rfl rfl ?_
              refine g_if_neN (tgt := 193) O (by omega) dL_areWaysSo_186 (by decide) (fun c_166 => ?_) (fun c_166 => (by omega))
              refine g_iconst (x := (nI 0)) O dL_areWaysSo_193 (by decide +kernel) ?_
              refine g_icmp_neN (tgt := 218) O (by omega) (by omega) dL_areWaysSo_194 (by decide) (fun c_167 => absurd c_167 (by decide)) (fun c_167 => ?_)
              refine g_iload O dL_areWaysSo_197 8 rfl ?_
              refine g_if_eqN (tgt := 214) O (by omega) dL_areWaysSo_199 (by decide) (fun c_168 => absurd c_168 (by decide)) (fun c_168 => ?_)
              refine g_aload_n O dL_areWaysSo_202 0 rfl rfl ?_
              refine g_iload O dL_areWaysSo_203 4 rfl ?_
              refine g_bipush (x := (nI 7)) O dL_areWaysSo_205 (by decide +kernel) ?_
              refine g_callW (As := [.int (nI wv), .int (nI 7)]) (Aw := wX D a P J_165) O (X_way_7 l D z a P wv J_165 hI.1 hB (by first | omega | assumption)) gL_areWaysSo_X8_way rfl rfl rfl 2 (by decide +kernel) (by decide) (by decide) rfl rfl rfl rfl rfl (Nat.le_of_ble_eq_true rfl) dL_areWaysSo_207 (fun r9 w9 hp => ?_)
              obtain ⟨rfl, J_169, rfl⟩ := hp
              refine g_eq (st' := [.int (bB (clB (p_s P) wv))]) (ws' := wX D a P J_169) rfl rfl rfl ?_
              refine g_iconst (x := (nI 1)) O dL_areWaysSo_210 (by decide +kernel) ?_
              refine g_icmp_ne (tgt := 218) O dL_areWaysSo_211 (by decide) (fun c_170 => (by exact absurd (by rw [fpP_cl hfp]; rfl) c_170)) (fun c_170 => ?_)
              refine g_iconst (x := (nI 1)) O dL_areWaysSo_214 (by decide +kernel) ?_
              refine g_goto (tgt := 219) O dL_areWaysSo_215 (by decide) ?_
              refine g_istore_n (L' := [(0, .ref (a 0)), (1, .int (nI (lsN wv))), (2, .int (nI (cntB (fpP (p_s P)) wv))), (3, .int (nI 1)), (4, .int (nI wv)), (5, .int (nI (tM wv))), (6, .int (nI (tN wv))), (7, .int (nI ((10 * (10 * (tM wv * tM wv + tN wv * tN wv) + tS wv)) + (tM wv)))), (8, .int (nI 1))]) O dL_areWaysSo_219 rfl (by decide) [1, 2, 3, 0, 4, 5, 6, 7, 8] rfl ?_
              refine g_iload_n O dL_areWaysSo_220 2 rfl rfl ?_
              refine g_iload O dL_areWaysSo_221 8 rfl ?_
              refine g_if_eqN (tgt := 230) O (by omega) dL_areWaysSo_223 (by decide) (fun c_171 => absurd c_171 (by decide)) (fun c_171 => ?_)
              refine g_iconst (x := (nI 1)) O dL_areWaysSo_226 (by decide +kernel) ?_
              refine g_goto (tgt := 231) O dL_areWaysSo_227 (by decide) ?_
              refine g_iaddN O dL_areWaysSo_231 ?_
              refine g_istore_n (L' := [(0, .ref (a 0)), (1, .int (nI (lsN wv))), (2, .int (nI ((cntB (fpP (p_s P)) wv) + 1))), (3, .int (nI 1)), (4, .int (nI wv)), (5, .int (nI (tM wv))), (6, .int (nI (tN wv))), (7, .int (nI ((10 * (10 * (tM wv * tM wv + tN wv * tN wv) + tS wv)) + (tM wv)))), (8, .int (nI 1))]) O dL_areWaysSo_232 rfl (by decide) [1, 2, 0, 3, 4, 5, 6, 7, 8] rfl ?_
              refine g_iload O dL_areWaysSo_233 7 rfl ?_
              refine g_istore_n (L' := [(0, .ref (a 0)), (1, .int (nI ((10 * (10 * (tM wv * tM wv + tN wv * tN wv) + tS wv)) + (tM wv)))), (2, .int (nI ((cntB (fpP (p_s P)) wv) + 1))), (3, .int (nI 1)), (4, .int (nI wv)), (5, .int (nI (tM wv))), (6, .int (nI (tN wv))), (7, .int (nI ((10 * (10 * (tM wv * tM wv + tN wv * tN wv) + tS wv)) + (tM wv)))), (8, .int (nI 1))]) O dL_areWaysSo_235 rfl (by decide) [1, 0, 2, 3, 4, 5, 6, 7, 8] rfl ?_
              refine g_iincN (L' := [(0, .ref (a 0)), (1, .int (nI ((10 * (10 * (tM wv * tM wv + tN wv * tN wv) + tS wv)) + (tM wv)))), (2, .int (nI ((cntB (fpP (p_s P)) wv) + 1))), (3, .int (nI 1)), (4, .int (nI (wv + 1))), (5, .int (nI (tM wv))), (6, .int (nI (tN wv))), (7, .int (nI ((10 * (10 * (tM wv * tM wv + tN wv * tN wv) + tS wv)) + (tM wv)))), (8, .int (nI 1))]) O dL_areWaysSo_236 4 rfl (by decide) [1, 2, 3, 4, 0, 5, 6, 7, 8] rfl ?_
              refine g_goto (tgt := 24) O dL_areWaysSo_239 (by decide) ?_
              rw [← cntB_t hfp]
              refine g_locals (L' := [(0, .ref (a 0)), (1, .int (nI ((10 * (10 * (tM wv * tM wv + tN wv * tN wv) + tS wv)) + (tM wv)))), (2, .int (nI (cntB (fpP (p_s P)) (wv + 1)))), (3, .int (nI 1)), (4, .int (nI (wv + 1)))]) [0, 1, 2, 3, 4] rfl ?_
              exact ih1 (wv + 1) J_169 (by omega) (by omega)
            ·
              refine g_iconst (x := (nI 1)) O dL_areWaysSo_174 (by decide +kernel) ?_
              refine g_goto (tgt := 179) O dL_areWaysSo_175 (by decide) ?_
              refine g_aload_n O dL_areWaysSo_179 0 rfl rfl ?_
              refine g_iload O dL_areWaysSo_180 4 rfl ?_
              refine g_iconst (x := (nI 4)) O dL_areWaysSo_182 (by decide +kernel) ?_
              refine g_callW (As := [.int (nI wv), .int (nI 4)]) (Aw := wX D a P J_160) O (X_way_4 l D z a P wv J_160 hI.1 hB (by first | omega | assumption)) gL_areWaysSo_X8_way rfl rfl rfl 2 (by decide +kernel) (by decide) (by decide) rfl rfl rfl rfl rfl (Nat.le_of_ble_eq_true rfl) dL_areWaysSo_183 (fun r9 w9 hp => ?_)
              obtain ⟨rfl, J_172, rfl⟩ := hp
              refine g_eq (st' := [.int (nI (cntB (fun p => stB (p_s P) wv p) 144)), .int (nI 1)]) (ws' := wX D a P J_172) rfl rfl rfl ?_
              refine g_if_neN (tgt := 193) O (by omega) dL_areWaysSo_186 (by decide) (fun c_173 => (by omega)) (fun c_173 => ?_)
              refine g_iconst (x := (nI 1)) O dL_areWaysSo_189 (by decide +kernel) ?_
              refine g_goto (tgt := 194) O dL_areWaysSo_190 (by decide) ?_
              refine g_icmp_neN (tgt := 218) O (by omega) (by omega) dL_areWaysSo_194 (by decide) (fun c_174 => absurd c_174 (by decide)) (fun c_174 => ?_)
              refine g_iload O dL_areWaysSo_197 8 rfl ?_
              refine g_if_eqN (tgt := 214) O (by omega) dL_areWaysSo_199 (by decide) (fun c_175 => absurd c_175 (by decide)) (fun c_175 => ?_)
              refine g_aload_n O dL_areWaysSo_202 0 rfl rfl ?_
              refine g_iload O dL_areWaysSo_203 4 rfl ?_
              refine g_bipush (x := (nI 7)) O dL_areWaysSo_205 (by decide +kernel) ?_
              refine g_callW (As := [.int (nI wv), .int (nI 7)]) (Aw := wX D a P J_172) O (X_way_7 l D z a P wv J_172 hI.1 hB (by first | omega | assumption)) gL_areWaysSo_X8_way rfl rfl rfl 2 (by decide +kernel) (by decide) (by decide) rfl rfl rfl rfl rfl (Nat.le_of_ble_eq_true rfl) dL_areWaysSo_207 (fun r9 w9 hp => ?_)
              obtain ⟨rfl, J_176, rfl⟩ := hp
              refine g_eq (st' := [.int (bB (clB (p_s P) wv))]) (ws' := wX D a P J_176) rfl rfl rfl ?_
              refine g_iconst (x := (nI 1)) O dL_areWaysSo_210 (by decide +kernel) ?_
              refine g_icmp_ne (tgt := 218) O dL_areWaysSo_211 (by decide) (fun c_177 => (by exact absurd (by rw [fpP_cl hfp]; rfl) c_177)) (fun c_177 => ?_)
              refine g_iconst (x := (nI 1)) O dL_areWaysSo_214 (by decide +kernel) ?_
              refine g_goto (tgt := 219) O dL_areWaysSo_215 (by decide) ?_
              refine g_istore_n (L' := [(0, .ref (a 0)), (1, .int (nI (lsN wv))), (2, .int (nI (cntB (fpP (p_s P)) wv))), (3, .int (nI 1)), (4, .int (nI wv)), (5, .int (nI (tM wv))), (6, .int (nI (tN wv))), (7, .int (nI ((10 * (10 * (tM wv * tM wv + tN wv * tN wv) + tS wv)) + (tM wv)))), (8, .int (nI 1))]) O dL_areWaysSo_219 rfl (by decide) [1, 2, 3, 0, 4, 5, 6, 7, 8] rfl ?_
              refine g_iload_n O dL_areWaysSo_220 2 rfl rfl ?_
              refine g_iload O dL_areWaysSo_221 8 rfl ?_
              refine g_if_eqN (tgt := 230) O (by omega) dL_areWaysSo_223 (by decide) (fun c_178 => absurd c_178 (by decide)) (fun c_178 => ?_)
              refine g_iconst (x := (nI 1)) O dL_areWaysSo_226 (by decide +kernel) ?_
              refine g_goto (tgt := 231) O dL_areWaysSo_227 (by decide) ?_
              refine g_iaddN O dL_areWaysSo_231 ?_
              refine g_istore_n (L' := [(0, .ref (a 0)), (1, .int (nI (lsN wv))), (2, .int (nI ((cntB (fpP (p_s P)) wv) + 1))), (3, .int (nI 1)), (4, .int (nI wv)), (5, .int (nI (tM wv))), (6, .int (nI (tN wv))), (7, .int (nI ((10 * (10 * (tM wv * tM wv + tN wv * tN wv) + tS wv)) + (tM wv)))), (8, .int (nI 1))]) O dL_areWaysSo_232 rfl (by decide) [1, 2, 0, 3, 4, 5, 6, 7, 8] rfl ?_
              refine g_iload O dL_areWaysSo_233 7 rfl ?_
              refine g_istore_n (L' := [(0, .ref (a 0)), (1, .int (nI ((10 * (10 * (tM wv * tM wv + tN wv * tN wv) + tS wv)) + (tM wv)))), (2, .int (nI ((cntB (fpP (p_s P)) wv) + 1))), (3, .int (nI 1)), (4, .int (nI wv)), (5, .int (nI (tM wv))), (6, .int (nI (tN wv))), (7, .int (nI ((10 * (10 * (tM wv * tM wv + tN wv * tN wv) + tS wv)) + (tM wv)))), (8, .int (nI 1))]) O dL_areWaysSo_235 rfl (by decide) [1, 0, 2, 3, 4, 5, 6, 7, 8] rfl ?_
              refine g_iincN (L' := [(0, .ref (a 0)), (1, .int (nI ((10 * (10 * (tM wv * tM wv + tN wv * tN wv) + tS wv)) + (tM wv)))), (2, .int (nI ((cntB (fpP (p_s P)) wv) + 1))), (3, .int (nI 1)), (4, .int (nI (wv + 1))), (5, .int (nI (tM wv))), (6, .int (nI (tN wv))), (7, .int (nI ((10 * (10 * (tM wv * tM wv + tN wv * tN wv) + tS wv)) + (tM wv)))), (8, .int (nI 1))]) O dL_areWaysSo_236 4 rfl (by decide) [1, 2, 3, 4, 0, 5, 6, 7, 8] rfl ?_
              refine g_goto (tgt := 24) O dL_areWaysSo_239 (by decide) ?_
              rw [← cntB_t hfp]
              refine g_locals (L' := [(0, .ref (a 0)), (1, .int (nI ((10 * (10 * (tM wv * tM wv + tN wv * tN wv) + tS wv)) + (tM wv)))), (2, .int (nI (cntB (fpP (p_s P)) (wv + 1)))), (3, .int (nI 1)), (4, .int (nI (wv + 1)))]) [0, 1, 2, 3, 4] rfl ?_
              exact ih1 (wv + 1) J_176 (by omega) (by omega)
  exact J24 _ 0 J_1 (by omega) (Nat.lt_succ_self _)
