/-! isBowSo -/
set_option maxHeartbeats 4000000 in
set_option maxRecDepth 100000 in
theorem kL_isBowSo (l : Launch) (D : va_G) (z : Nat × Nat × Nat) (a : Nat → Nat) (P : PS) (J : JS) (sd al : Nat) (hs : sd < 4) (ha : al < 12) {Bd : Nat} (hI : IW Bd P) (hB : Bd < 1073741824) : CM l yL_isBowSo wsL_isBowSo ({ frames := 7, cells := 0, slots := 0, locals := 163 } : Room) D z [.ref (a 0), .int (nI sd), .int (nI al)] (wX D a P J) (fun r w => r = some (.int (bB true)) ∧ ∃ J', w = wX D a P J') 0 0 := by
  refine CM_bool (own := RL) (cc := cL_isBowSo) (maxL := 11) (L0 := [(0, .ref (a 0)), (1, .int (nI sd)), (2, .int (nI al))]) (by decide) rfl rfl (Nat.le_of_ble_eq_true rfl) rfl (fun X O E => ?_)
  have hok := hI.1.1
  have hnc := hok.1
  have hbp := bpN_lt (sd := sd) ha
  have hxy : 12 * (bpN sd al / 12) + bpN sd al % 12 = bpN sd al := by omega
  refine g_aload_n O dL_isBowSo_0 0 rfl rfl ?_
  refine g_iload_n O dL_isBowSo_1 1 rfl rfl ?_
  refine g_iload_n O dL_isBowSo_2 2 rfl rfl ?_
  refine g_callW (As := [.int (nI sd), .int (nI al)]) (Aw := wX D a P J) O (X_sounds_ok l D z a P sd al J hI.1 hB (by first | omega | assumption) (by first | omega | assumption)) gL_isBowSo_X8_sounds rfl rfl rfl 2 (by decide +kernel) (by decide) (by decide) rfl rfl rfl rfl rfl (Nat.le_of_ble_eq_true rfl) dL_isBowSo_3 (fun r9 w9 hp => ?_)
  obtain ⟨rfl, J_1, rfl⟩ := hp
  refine g_eq (st' := [.int (laM (orM (wyO (p_s P) (bpN sd al))))]) (ws' := wX D a P J_1) rfl rfl rfl ?_
  refine g_istore_n (L' := [(0, .ref (a 0)), (1, .int (nI sd)), (2, .int (nI al)), (3, .int (laM (orM (wyO (p_s P) (bpN sd al)))))]) O dL_isBowSo_6 rfl (by decide) [1, 2, 3, 0] rfl ?_
  refine g_iload_n O dL_isBowSo_7 1 rfl rfl ?_
  refine g_iload_n O dL_isBowSo_8 2 rfl rfl ?_
  refine g_callN (As := [.int (nI sd), .int (nI al)]) O (kL_placeOf l D z sd al hs ha) gL_isBowSo_L_placeOf rfl rfl rfl 2 (by decide +kernel) (by decide) (by decide) rfl rfl (Nat.le_of_ble_eq_true rfl) dL_isBowSo_9 (fun x_2 hp_3 => ?_)
  subst hp_3
  refine g_eq (st' := [.int (nI (bpN sd al))]) (rfl) rfl rfl ?_
  refine g_istore (L' := [(0, .ref (a 0)), (1, .int (nI sd)), (2, .int (nI al)), (3, .int (laM (orM (wyO (p_s P) (bpN sd al))))), (4, .int (nI (bpN sd al)))]) O dL_isBowSo_12 (by decide) [1, 2, 3, 4, 0] rfl ?_
  refine g_iconst (x := (nI 1)) O dL_isBowSo_14 (by decide +kernel) ?_
  refine g_istore (L' := [(0, .ref (a 0)), (1, .int (nI sd)), (2, .int (nI al)), (3, .int (laM (orM (wyO (p_s P) (bpN sd al))))), (4, .int (nI (bpN sd al))), (5, .int (nI 1))]) O dL_isBowSo_15 (by decide) [1, 2, 3, 4, 5, 0] rfl ?_
  refine g_bipush (x := (-5)) O dL_isBowSo_17 (by decide +kernel) ?_
  refine g_istore (L' := [(0, .ref (a 0)), (1, .int (nI sd)), (2, .int (nI al)), (3, .int (laM (orM (wyO (p_s P) (bpN sd al))))), (4, .int (nI (bpN sd al))), (5, .int (nI 1)), (6, .int (-5))]) O dL_isBowSo_19 (by decide) [1, 2, 3, 4, 5, 6, 0] rfl ?_
  refine g_iconst (x := (nI 0)) O dL_isBowSo_21 (by decide +kernel) ?_
  refine g_istore (L' := [(0, .ref (a 0)), (1, .int (nI sd)), (2, .int (nI al)), (3, .int (laM (orM (wyO (p_s P) (bpN sd al))))), (4, .int (nI (bpN sd al))), (5, .int (nI 1)), (6, .int (-5)), (7, .int (nI 0))]) O dL_isBowSo_22 (by decide) [1, 2, 3, 4, 5, 6, 7, 0] rfl ?_
  have J24 : ∀ (n_ : Nat), ∀ (wv : Nat) (ah : Bool) (fo : Int32) (J1_ : JS) (hw : wv ≤ 48) (hah : ah = (fdB (okB (p_s P) (bpN sd al)) wv).isNone) (hfo : fo = orN (fdB (okB (p_s P) (bpN sd al)) wv)), 48 - wv < n_ → G X 0 0 24 [(0, .ref (a 0)), (1, .int (nI sd)), (2, .int (nI al)), (3, .int (laM (orM (wyO (p_s P) (bpN sd al))))), (4, .int (nI (bpN sd al))), (5, .int (bB ah)), (6, .int fo), (7, .int (nI wv))] [] (wX D a P J1_) := by
    intro n_
    induction n_ with
    | zero => intro wv ah fo J1_ hw hah hfo hm_; exact absurd hm_ (Nat.not_lt_zero _)
    | succ n_ ih1 =>
      intro wv ah fo J1_ hw hah hfo hm_
      refine g_iload O dL_isBowSo_24 7 rfl ?_
      refine g_bipush (x := (nI 48)) O dL_isBowSo_26 (by decide +kernel) ?_
      refine g_icmp_geN (tgt := 255) O (by omega) (by omega) dL_isBowSo_28 (by decide) (fun c_4 => ?_) (fun c_4 => ?_)
      ·
        obtain rfl : wv = 48 := by omega
        refine g_iload O dL_isBowSo_255 6 rfl ?_
        refine g_iload_n O dL_isBowSo_257 3 rfl rfl ?_
        refine g_icmp_ne (tgt := 265) O dL_isBowSo_258 (by decide) (fun c_5 => (by exact absurd (by rw [hfo, laM_o (fun k hk => by have := wyO_lt hk; omega)]; rfl) c_5)) (fun c_5 => ?_)
        refine g_iconst (x := (nI 1)) O dL_isBowSo_261 (by decide +kernel) ?_
        refine g_goto (tgt := 266) O dL_isBowSo_262 (by decide) ?_
        refine g_eq (st' := [.int (bB true)]) rfl rfl rfl ?_
        exact E 266 _ true _ dL_isBowSo_266 ⟨rfl, _, rfl⟩
      ·
        refine g_iconst (x := (nI 0)) O dL_isBowSo_31 (by decide +kernel) ?_
        refine g_istore (L' := [(0, .ref (a 0)), (1, .int (nI sd)), (2, .int (nI al)), (3, .int (laM (orM (wyO (p_s P) (bpN sd al))))), (4, .int (nI (bpN sd al))), (5, .int (bB ah)), (6, .int fo), (7, .int (nI wv)), (8, .int (nI 0))]) O dL_isBowSo_32 (by decide) [1, 2, 3, 4, 5, 6, 7, 8, 0] rfl ?_
        refine g_iconst (x := (nI 0)) O dL_isBowSo_34 (by decide +kernel) ?_
        refine g_istore (L' := [(0, .ref (a 0)), (1, .int (nI sd)), (2, .int (nI al)), (3, .int (laM (orM (wyO (p_s P) (bpN sd al))))), (4, .int (nI (bpN sd al))), (5, .int (bB ah)), (6, .int fo), (7, .int (nI wv)), (8, .int (nI 0)), (9, .int (nI 0))]) O dL_isBowSo_35 (by decide) [1, 2, 3, 4, 5, 6, 7, 8, 9, 0] rfl ?_
        have J37 : ∀ (n_ : Nat), ∀ (cv : Nat) (he : Bool) (J2_ : JS) (hc : cv ≤ sv_nc (p_s P)) (hhe : he = hdB (p_s P) wv cv), sv_nc (p_s P) - cv < n_ → G X 0 0 37 [(0, .ref (a 0)), (1, .int (nI sd)), (2, .int (nI al)), (3, .int (laM (orM (wyO (p_s P) (bpN sd al))))), (4, .int (nI (bpN sd al))), (5, .int (bB ah)), (6, .int fo), (7, .int (nI wv)), (8, .int (bB he)), (9, .int (nI cv))] [] (wX D a P J2_) := by
          intro n_
          induction n_ with
          | zero => intro cv he J2_ hc hhe hm_; exact absurd hm_ (Nat.not_lt_zero _)
          | succ n_ ih2 =>
            intro cv he J2_ hc hhe hm_
            refine g_iload O dL_isBowSo_37 9 rfl ?_
            refine g_aload_n O dL_isBowSo_39 0 rfl rfl ?_
            refine g_iconst (x := (nI 4)) O dL_isBowSo_40 (by decide +kernel) ?_
            refine g_callW (As := [.int (nI 4)]) (Aw := wX D a P J2_) O (X_count_4 l D z a P J2_ hI.1 hB ) gL_isBowSo_X8_count rfl rfl rfl 1 (by decide +kernel) (by decide) (by decide) rfl rfl rfl rfl rfl (Nat.le_of_ble_eq_true rfl) dL_isBowSo_41 (fun r9 w9 hp => ?_)
            obtain ⟨rfl, J_6, rfl⟩ := hp
            refine g_eq (st' := [.int (nI (sv_nc (p_s P))), .int (nI cv)]) (ws' := wX D a P J_6) rfl rfl rfl ?_
            refine g_icmp_geN (tgt := 94) O (by omega) (by omega) dL_isBowSo_44 (by decide) (fun c_7 => ?_) (fun c_7 => ?_)
            ·
              have hcl : he = !clB (p_s P) wv := by rw [hhe, show cv = sv_nc (p_s P) by omega, hdB_cl]
              refine g_aload_n O dL_isBowSo_94 0 rfl rfl ?_
              refine g_iload O dL_isBowSo_95 7 rfl ?_
              refine g_iload O dL_isBowSo_97 4 rfl ?_
              refine g_bipush (x := (nI 12)) O dL_isBowSo_99 (by decide +kernel) ?_
              refine g_iremN O (by omega) (by omega) (by omega) dL_isBowSo_101 ?_
              refine g_iload O dL_isBowSo_102 4 rfl ?_
              refine g_bipush (x := (nI 12)) O dL_isBowSo_104 (by decide +kernel) ?_
              refine g_idivN O (by omega) (by omega) (by omega) dL_isBowSo_106 ?_
              refine g_callW (As := [.int (nI wv), .int (nI ((bpN sd al) % 12)), .int (nI ((bpN sd al) / 12))]) (Aw := wX D a P J_6) O (X_swing_ok l D z a P wv ((bpN sd al) % 12) ((bpN sd al) / 12) J_6 hI.1 hB (by first | omega | assumption) (by first | omega | assumption) (by first | omega | assumption)) gL_isBowSo_X8_swing rfl rfl rfl 3 (by decide +kernel) (by decide) (by decide) rfl rfl rfl rfl rfl (Nat.le_of_ble_eq_true rfl) dL_isBowSo_107 (fun r9 w9 hp => ?_)
              obtain ⟨rfl, J_8, rfl⟩ := hp
              refine g_eq (st' := [.int (SW wv (12 * ((bpN sd al) / 12) + ((bpN sd al) % 12)))]) (ws' := wX D a P J_8) rfl rfl rfl ?_
              refine g_eq (st' := [.int (SW wv (bpN sd al))]) (by rw [hxy]) rfl rfl ?_
              refine g_istore (L' := [(0, .ref (a 0)), (1, .int (nI sd)), (2, .int (nI al)), (3, .int (laM (orM (wyO (p_s P) (bpN sd al))))), (4, .int (nI (bpN sd al))), (5, .int (bB ah)), (6, .int fo), (7, .int (nI wv)), (8, .int (bB he)), (9, .int (SW wv (bpN sd al)))]) O dL_isBowSo_110 (by decide) [1, 2, 3, 4, 5, 6, 7, 8, 9, 0] rfl ?_
              refine g_iload O dL_isBowSo_112 8 rfl ?_
              refine g_if_eqB (tgt := 121) O dL_isBowSo_114 (by decide) (fun c_9 => ?_) (fun c_9 => ?_)
              ·
                subst c_9
                have hcB : clB (p_s P) wv = true := by cases hz : clB (p_s P) wv; (rw [hz] at hcl; cases hcl); rfl
                refine g_iload O dL_isBowSo_121 9 rfl ?_
                refine g_aload_n O dL_isBowSo_123 0 rfl rfl ?_
                refine g_bipush (x := (nI 12)) O dL_isBowSo_124 (by decide +kernel) ?_
                refine g_callW (As := [.int (nI 12)]) (Aw := wX D a P J_8) O (X_count_12 l D z a P J_8 hI.1 hB ) gL_isBowSo_X8_count rfl rfl rfl 1 (by decide +kernel) (by decide) (by decide) rfl rfl rfl rfl rfl (Nat.le_of_ble_eq_true rfl) dL_isBowSo_126 (fun r9 w9 hp => ?_)
                obtain ⟨rfl, J_10, rfl⟩ := hp
                refine g_eq (st' := [.int (sv_se (p_s P) 1), .int (SW wv (bpN sd al))]) (ws' := wX D a P J_10) rfl rfl rfl ?_
                refine g_icmp_ge (tgt := 136) O dL_isBowSo_129 (by decide) (fun c_11 => ?_) (fun c_11 => ?_)
                ·
                  have hbw : bwB (p_s P) wv (bpN sd al) = true := decide_eq_true c_11
                  refine g_iload O dL_isBowSo_136 5 rfl ?_
                  refine g_if_eqB (tgt := 145) O dL_isBowSo_138 (by decide) (fun c_12 => ?_) (fun c_12 => ?_)
                  ·
                    subst c_12
                    obtain ⟨kf, hkf⟩ : ∃ kf, (fdB (okB (p_s P) (bpN sd al)) wv) = some kf := by cases hz : (fdB (okB (p_s P) (bpN sd al)) wv); (rw [hz] at hah; cases hah); exact ⟨_, rfl⟩
                    have hrs := rs_behind (by omega) hcB hbw hkf
                    have hFn : (fdB (okB (p_s P) (bpN sd al)) (wv + 1)) = (fdB (okB (p_s P) (bpN sd al)) wv) := by rw [hkf]; exact fdB_up hkf (Nat.le_succ _)
                    refine g_iconst (x := (nI 3)) O dL_isBowSo_145 (by decide +kernel) ?_
                    refine g_istore (L' := [(0, .ref (a 0)), (1, .int (nI sd)), (2, .int (nI al)), (3, .int (laM (orM (wyO (p_s P) (bpN sd al))))), (4, .int (nI (bpN sd al))), (5, .int (bB false)), (6, .int fo), (7, .int (nI wv)), (8, .int (bB false)), (9, .int (SW wv (bpN sd al))), (10, .int (nI 3))]) O dL_isBowSo_146 (by decide) [1, 2, 3, 4, 5, 6, 7, 8, 9, 10, 0] rfl ?_
                    refine g_iload O dL_isBowSo_148 10 rfl ?_
                    refine g_if_neN (tgt := 158) O (by omega) dL_isBowSo_150 (by decide) (fun c_13 => ?_) (fun c_13 => absurd c_13 (by decide))
                    refine g_iload O dL_isBowSo_158 6 rfl ?_
                    refine g_istore (L' := [(0, .ref (a 0)), (1, .int (nI sd)), (2, .int (nI al)), (3, .int (laM (orM (wyO (p_s P) (bpN sd al))))), (4, .int (nI (bpN sd al))), (5, .int (bB false)), (6, .int fo), (7, .int (nI wv)), (8, .int (bB false)), (9, .int (SW wv (bpN sd al))), (10, .int (nI 3))]) O dL_isBowSo_160 (by decide) [1, 2, 3, 4, 5, 6, 0, 7, 8, 9, 10] rfl ?_
                    refine g_iload O dL_isBowSo_162 5 rfl ?_
                    refine g_if_eqB (tgt := 176) O dL_isBowSo_164 (by decide) (fun c_14 => ?_) (fun c_14 => absurd c_14 (by decide))
                    refine g_iconst (x := (nI 0)) O dL_isBowSo_176 (by decide +kernel) ?_
                    refine g_istore (L' := [(0, .ref (a 0)), (1, .int (nI sd)), (2, .int (nI al)), (3, .int (laM (orM (wyO (p_s P) (bpN sd al))))), (4, .int (nI (bpN sd al))), (5, .int (nI 0)), (6, .int fo), (7, .int (nI wv)), (8, .int (bB false)), (9, .int (SW wv (bpN sd al))), (10, .int (nI 3))]) O dL_isBowSo_177 (by decide) [1, 2, 3, 4, 5, 0, 6, 7, 8, 9, 10] rfl ?_
                    refine g_aload_n O dL_isBowSo_179 0 rfl rfl ?_
                    refine g_iload O dL_isBowSo_180 7 rfl ?_
                    refine g_iload_n O dL_isBowSo_182 1 rfl rfl ?_
                    refine g_iload_n O dL_isBowSo_183 2 rfl rfl ?_
                    refine g_callW (As := [.int (nI wv), .int (nI sd), .int (nI al)]) (Aw := wX D a P J_10) O (X_why_ok l D z a P wv sd al J_10 hI.1 hB (by first | omega | assumption) (by first | omega | assumption) (by first | omega | assumption)) gL_isBowSo_X8_why rfl rfl rfl 3 (by decide +kernel) (by decide) (by decide) rfl rfl rfl rfl rfl (Nat.le_of_ble_eq_true rfl) dL_isBowSo_184 (fun r9 w9 hp => ?_)
                    obtain ⟨rfl, J_15, rfl⟩ := hp
                    refine g_eq (st' := [.int (nI (rsN (p_s P) wv (bpN sd al)))]) (ws' := wX D a P J_15) rfl rfl rfl ?_
                    refine g_iload O dL_isBowSo_187 10 rfl ?_
                    refine g_icmp_neN (tgt := 247) O (by omega) (by omega) dL_isBowSo_189 (by decide) (fun c_16 => (by exact absurd hrs c_16)) (fun c_16 => ?_)
                    refine g_aload_n O dL_isBowSo_192 0 rfl rfl ?_
                    refine g_iload O dL_isBowSo_193 7 rfl ?_
                    refine g_bipush (x := (nI 7)) O dL_isBowSo_195 (by decide +kernel) ?_
                    refine g_callW (As := [.int (nI wv), .int (nI 7)]) (Aw := wX D a P J_15) O (X_way_7 l D z a P wv J_15 hI.1 hB (by first | omega | assumption)) gL_isBowSo_X8_way rfl rfl rfl 2 (by decide +kernel) (by decide) (by decide) rfl rfl rfl rfl rfl (Nat.le_of_ble_eq_true rfl) dL_isBowSo_197 (fun r9 w9 hp => ?_)
                    obtain ⟨rfl, J_17, rfl⟩ := hp
                    refine g_eq (st' := [.int (bB (clB (p_s P) wv))]) (ws' := wX D a P J_17) rfl rfl rfl ?_
                    refine g_iload O dL_isBowSo_200 8 rfl ?_
                    refine g_if_eqB (tgt := 209) O dL_isBowSo_202 (by decide) (fun c_18 => ?_) (fun c_18 => absurd c_18 (by decide))
                    refine g_iconst (x := (nI 1)) O dL_isBowSo_209 (by decide +kernel) ?_
                    refine g_icmp_ne (tgt := 247) O dL_isBowSo_210 (by decide) (fun c_19 => (by exact absurd (by rw [hcB]; rfl) c_19)) (fun c_19 => ?_)
                    refine g_iload O dL_isBowSo_213 9 rfl ?_
                    refine g_aload_n O dL_isBowSo_215 0 rfl rfl ?_
                    refine g_iload O dL_isBowSo_216 7 rfl ?_
                    refine g_iload O dL_isBowSo_218 4 rfl ?_
                    refine g_bipush (x := (nI 12)) O dL_isBowSo_220 (by decide +kernel) ?_
                    refine g_idivN O (by omega) (by omega) (by omega) dL_isBowSo_222 ?_
                    refine g_iload O dL_isBowSo_223 4 rfl ?_
                    refine g_bipush (x := (nI 12)) O dL_isBowSo_225 (by decide +kernel) ?_
                    refine g_iremN O (by omega) (by omega) (by omega) dL_isBowSo_227 ?_
                    refine g_callW (As := [.int (nI wv), .int (nI ((bpN sd al) / 12)), .int (nI ((bpN sd al) % 12))]) (Aw := wX D a P J_17) O (X_swing_ok l D z a P wv ((bpN sd al) / 12) ((bpN sd al) % 12) J_17 hI.1 hB (by first | omega | assumption) (by first | omega | assumption) (by first | omega | assumption)) gL_isBowSo_X8_swing rfl rfl rfl 3 (by decide +kernel) (by decide) (by decide) rfl rfl rfl rfl rfl (Nat.le_of_ble_eq_true rfl) dL_isBowSo_228 (fun r9 w9 hp => ?_)
                    obtain ⟨rfl, J_20, rfl⟩ := hp
                    refine g_eq (st' := [.int (SW wv (12 * ((bpN sd al) % 12) + ((bpN sd al) / 12))), .int (SW wv (bpN sd al))]) (ws' := wX D a P J_20) rfl rfl rfl ?_
                    refine g_eq (st' := [.int (SW wv (bpN sd al)), .int (SW wv (bpN sd al))]) (by rw [SW_sym (by omega) hbp]) rfl rfl ?_
                    refine g_icmp_ne (tgt := 247) O dL_isBowSo_231 (by decide) (fun c_21 => (by exact absurd rfl c_21)) (fun c_21 => ?_)
                    refine g_iload O dL_isBowSo_234 9 rfl ?_
                    refine g_if_lt (tgt := 247) O dL_isBowSo_236 (by decide) (fun c_22 => (by exact absurd c_22 (SW_ge (by omega) hbp))) (fun c_22 => ?_)
                    refine g_iload O dL_isBowSo_239 9 rfl ?_
                    refine g_sipush (x := (nI 200)) O dL_isBowSo_241 (by decide +kernel) ?_
                    refine g_icmp_le (tgt := 249) O dL_isBowSo_244 (by decide) (fun c_23 => ?_) (fun c_23 => (by exact absurd (Int32.not_lt.mp (SW_le (by omega) hbp)) c_23))
                    refine g_iincN (L' := [(0, .ref (a 0)), (1, .int (nI sd)), (2, .int (nI al)), (3, .int (laM (orM (wyO (p_s P) (bpN sd al))))), (4, .int (nI (bpN sd al))), (5, .int (nI 0)), (6, .int fo), (7, .int (nI (wv + 1))), (8, .int (bB false)), (9, .int (SW wv (bpN sd al))), (10, .int (nI 3))]) O dL_isBowSo_249 7 rfl (by decide) [1, 2, 3, 4, 5, 6, 7, 0, 8, 9, 10] rfl ?_
                    refine g_goto (tgt := 24) O dL_isBowSo_252 (by decide) ?_
                    refine g_locals (L' := [(0, .ref (a 0)), (1, .int (nI sd)), (2, .int (nI al)), (3, .int (laM (orM (wyO (p_s P) (bpN sd al))))), (4, .int (nI (bpN sd al))), (5, .int (bB false)), (6, .int fo), (7, .int (nI (wv + 1))), (8, .int (bB false)), (9, .int (SW wv (bpN sd al))), (10, .int (nI 3))]) [0, 1, 2, 3, 4, 5, 6, 7, 8, 9, 10] rfl ?_
                    refine g_locals (L' := [(0, .ref (a 0)), (1, .int (nI sd)), (2, .int (nI al)), (3, .int (laM (orM (wyO (p_s P) (bpN sd al))))), (4, .int (nI (bpN sd al))), (5, .int (bB false)), (6, .int fo), (7, .int (nI (wv + 1)))]) [0, 1, 2, 3, 4, 5, 6, 7] rfl ?_
                    exact ih1 (wv + 1) false fo J_20 (by omega) (by rw [hFn]; first | rfl | exact hah) (by rw [hFn]; first | rfl | exact hfo) (by omega)
                  ·
                    subst c_12
                    have hkf : (fdB (okB (p_s P) (bpN sd al)) wv) = none := by cases hz : (fdB (okB (p_s P) (bpN sd al)) wv); rfl; (rw [hz] at hah; cases hah)
                    have hrs := rs_first (by omega) hcB hbw hkf
                    have hFn : (fdB (okB (p_s P) (bpN sd al)) (wv + 1)) = some wv := fdB_t hkf (by show (bwB (p_s P) wv (bpN sd al) && clB (p_s P) wv) = true; rw [hcB, hbw]; rfl)
                    refine g_iconst (x := (nI 0)) O dL_isBowSo_141 (by decide +kernel) ?_
                    refine g_goto (tgt := 146) O dL_isBowSo_142 (by decide) ?_
                    refine g_istore (L' := [(0, .ref (a 0)), (1, .int (nI sd)), (2, .int (nI al)), (3, .int (laM (orM (wyO (p_s P) (bpN sd al))))), (4, .int (nI (bpN sd al))), (5, .int (bB true)), (6, .int fo), (7, .int (nI wv)), (8, .int (bB false)), (9, .int (SW wv (bpN sd al))), (10, .int (nI 0))]) O dL_isBowSo_146 (by decide) [1, 2, 3, 4, 5, 6, 7, 8, 9, 10, 0] rfl ?_
                    refine g_iload O dL_isBowSo_148 10 rfl ?_
                    refine g_if_neN (tgt := 158) O (by omega) dL_isBowSo_150 (by decide) (fun c_24 => absurd c_24 (by decide)) (fun c_24 => ?_)
                    refine g_iload O dL_isBowSo_153 7 rfl ?_
                    refine g_goto (tgt := 160) O dL_isBowSo_155 (by decide) ?_
                    refine g_istore (L' := [(0, .ref (a 0)), (1, .int (nI sd)), (2, .int (nI al)), (3, .int (laM (orM (wyO (p_s P) (bpN sd al))))), (4, .int (nI (bpN sd al))), (5, .int (bB true)), (6, .int (nI wv)), (7, .int (nI wv)), (8, .int (bB false)), (9, .int (SW wv (bpN sd al))), (10, .int (nI 0))]) O dL_isBowSo_160 (by decide) [1, 2, 3, 4, 5, 6, 0, 7, 8, 9, 10] rfl ?_
                    refine g_iload O dL_isBowSo_162 5 rfl ?_
                    refine g_if_eqB (tgt := 176) O dL_isBowSo_164 (by decide) (fun c_25 => absurd c_25 (by decide)) (fun c_25 => ?_)
                    refine g_iload O dL_isBowSo_167 10 rfl ?_
                    refine g_if_eqN (tgt := 176) O (by omega) dL_isBowSo_169 (by decide) (fun c_26 => ?_) (fun c_26 => absurd c_26 (by decide))
                    refine g_iconst (x := (nI 0)) O dL_isBowSo_176 (by decide +kernel) ?_
                    refine g_istore (L' := [(0, .ref (a 0)), (1, .int (nI sd)), (2, .int (nI al)), (3, .int (laM (orM (wyO (p_s P) (bpN sd al))))), (4, .int (nI (bpN sd al))), (5, .int (nI 0)), (6, .int (nI wv)), (7, .int (nI wv)), (8, .int (bB false)), (9, .int (SW wv (bpN sd al))), (10, .int (nI 0))]) O dL_isBowSo_177 (by decide) [1, 2, 3, 4, 5, 0, 6, 7, 8, 9, 10] rfl ?_
                    refine g_aload_n O dL_isBowSo_179 0 rfl rfl ?_
                    refine g_iload O dL_isBowSo_180 7 rfl ?_
                    refine g_iload_n O dL_isBowSo_182 1 rfl rfl ?_
                    refine g_iload_n O dL_isBowSo_183 2 rfl rfl ?_
                    refine g_callW (As := [.int (nI wv), .int (nI sd), .int (nI al)]) (Aw := wX D a P J_10) O (X_why_ok l D z a P wv sd al J_10 hI.1 hB (by first | omega | assumption) (by first | omega | assumption) (by first | omega | assumption)) gL_isBowSo_X8_why rfl rfl rfl 3 (by decide +kernel) (by decide) (by decide) rfl rfl rfl rfl rfl (Nat.le_of_ble_eq_true rfl) dL_isBowSo_184 (fun r9 w9 hp => ?_)
                    obtain ⟨rfl, J_27, rfl⟩ := hp
                    refine g_eq (st' := [.int (nI (rsN (p_s P) wv (bpN sd al)))]) (ws' := wX D a P J_27) rfl rfl rfl ?_
                    refine g_iload O dL_isBowSo_187 10 rfl ?_
                    refine g_icmp_neN (tgt := 247) O (by omega) (by omega) dL_isBowSo_189 (by decide) (fun c_28 => (by exact absurd hrs c_28)) (fun c_28 => ?_)
                    refine g_aload_n O dL_isBowSo_192 0 rfl rfl ?_
                    refine g_iload O dL_isBowSo_193 7 rfl ?_
                    refine g_bipush (x := (nI 7)) O dL_isBowSo_195 (by decide +kernel) ?_
                    refine g_callW (As := [.int (nI wv), .int (nI 7)]) (Aw := wX D a P J_27) O (X_way_7 l D z a P wv J_27 hI.1 hB (by first | omega | assumption)) gL_isBowSo_X8_way rfl rfl rfl 2 (by decide +kernel) (by decide) (by decide) rfl rfl rfl rfl rfl (Nat.le_of_ble_eq_true rfl) dL_isBowSo_197 (fun r9 w9 hp => ?_)
                    obtain ⟨rfl, J_29, rfl⟩ := hp
                    refine g_eq (st' := [.int (bB (clB (p_s P) wv))]) (ws' := wX D a P J_29) rfl rfl rfl ?_
                    refine g_iload O dL_isBowSo_200 8 rfl ?_
                    refine g_if_eqB (tgt := 209) O dL_isBowSo_202 (by decide) (fun c_30 => ?_) (fun c_30 => absurd c_30 (by decide))
                    refine g_iconst (x := (nI 1)) O dL_isBowSo_209 (by decide +kernel) ?_
                    refine g_icmp_ne (tgt := 247) O dL_isBowSo_210 (by decide) (fun c_31 => (by exact absurd (by rw [hcB]; rfl) c_31)) (fun c_31 => ?_)
                    refine g_iload O dL_isBowSo_213 9 rfl ?_
                    refine g_aload_n O dL_isBowSo_215 0 rfl rfl ?_
                    refine g_iload O dL_isBowSo_216 7 rfl ?_
                    refine g_iload O dL_isBowSo_218 4 rfl ?_
                    refine g_bipush (x := (nI 12)) O dL_isBowSo_220 (by decide +kernel) ?_
                    refine g_idivN O (by omega) (by omega) (by omega) dL_isBowSo_222 ?_
                    refine g_iload O dL_isBowSo_223 4 rfl ?_
                    refine g_bipush (x := (nI 12)) O dL_isBowSo_225 (by decide +kernel) ?_
                    refine g_iremN O (by omega) (by omega) (by omega) dL_isBowSo_227 ?_
                    refine g_callW (As := [.int (nI wv), .int (nI ((bpN sd al) / 12)), .int (nI ((bpN sd al) % 12))]) (Aw := wX D a P J_29) O (X_swing_ok l D z a P wv ((bpN sd al) / 12) ((bpN sd al) % 12) J_29 hI.1 hB (by first | omega | assumption) (by first | omega | assumption) (by first | omega | assumption)) gL_isBowSo_X8_swing rfl rfl rfl 3 (by decide +kernel) (by decide) (by decide) rfl rfl rfl rfl rfl (Nat.le_of_ble_eq_true rfl) dL_isBowSo_228 (fun r9 w9 hp => ?_)
                    obtain ⟨rfl, J_32, rfl⟩ := hp
                    refine g_eq (st' := [.int (SW wv (12 * ((bpN sd al) % 12) + ((bpN sd al) / 12))), .int (SW wv (bpN sd al))]) (ws' := wX D a P J_32) rfl rfl rfl ?_
                    refine g_eq (st' := [.int (SW wv (bpN sd al)), .int (SW wv (bpN sd al))]) (by rw [SW_sym (by omega) hbp]) rfl rfl ?_
                    refine g_icmp_ne (tgt := 247) O dL_isBowSo_231 (by decide) (fun c_33 => (by exact absurd rfl c_33)) (fun c_33 => ?_)
                    refine g_iload O dL_isBowSo_234 9 rfl ?_
                    refine g_if_lt (tgt := 247) O dL_isBowSo_236 (by decide) (fun c_34 => (by exact absurd c_34 (SW_ge (by omega) hbp))) (fun c_34 => ?_)
                    refine g_iload O dL_isBowSo_239 9 rfl ?_
                    refine g_sipush (x := (nI 200)) O dL_isBowSo_241 (by decide +kernel) ?_
                    refine g_icmp_le (tgt := 249) O dL_isBowSo_244 (by decide) (fun c_35 => ?_) (fun c_35 => (by exact absurd (Int32.not_lt.mp (SW_le (by omega) hbp)) c_35))
                    refine g_iincN (L' := [(0, .ref (a 0)), (1, .int (nI sd)), (2, .int (nI al)), (3, .int (laM (orM (wyO (p_s P) (bpN sd al))))), (4, .int (nI (bpN sd al))), (5, .int (nI 0)), (6, .int (nI wv)), (7, .int (nI (wv + 1))), (8, .int (bB false)), (9, .int (SW wv (bpN sd al))), (10, .int (nI 0))]) O dL_isBowSo_249 7 rfl (by decide) [1, 2, 3, 4, 5, 6, 7, 0, 8, 9, 10] rfl ?_
                    refine g_goto (tgt := 24) O dL_isBowSo_252 (by decide) ?_
                    refine g_locals (L' := [(0, .ref (a 0)), (1, .int (nI sd)), (2, .int (nI al)), (3, .int (laM (orM (wyO (p_s P) (bpN sd al))))), (4, .int (nI (bpN sd al))), (5, .int (bB false)), (6, .int (nI wv)), (7, .int (nI (wv + 1))), (8, .int (bB false)), (9, .int (SW wv (bpN sd al))), (10, .int (nI 0))]) [0, 1, 2, 3, 4, 5, 6, 7, 8, 9, 10] rfl ?_
                    refine g_locals (L' := [(0, .ref (a 0)), (1, .int (nI sd)), (2, .int (nI al)), (3, .int (laM (orM (wyO (p_s P) (bpN sd al))))), (4, .int (nI (bpN sd al))), (5, .int (bB false)), (6, .int (nI wv)), (7, .int (nI (wv + 1)))]) [0, 1, 2, 3, 4, 5, 6, 7] rfl ?_
                    exact ih1 (wv + 1) false (nI wv) J_32 (by omega) (by rw [hFn]; first | rfl | exact hah) (by rw [hFn]; first | rfl | exact hfo) (by omega)
                ·
                  have hbw : bwB (p_s P) wv (bpN sd al) = false := decide_eq_false c_11
                  have hrs := rs_weak hcB hbw
                  have hFn : (fdB (okB (p_s P) (bpN sd al)) (wv + 1)) = (fdB (okB (p_s P) (bpN sd al)) wv) := fdB_f (by show (bwB (p_s P) wv (bpN sd al) && clB (p_s P) wv) = false; rw [hbw]; rfl)
                  refine g_iconst (x := (nI 2)) O dL_isBowSo_132 (by decide +kernel) ?_
                  refine g_goto (tgt := 146) O dL_isBowSo_133 (by decide) ?_
                  refine g_istore (L' := [(0, .ref (a 0)), (1, .int (nI sd)), (2, .int (nI al)), (3, .int (laM (orM (wyO (p_s P) (bpN sd al))))), (4, .int (nI (bpN sd al))), (5, .int (bB ah)), (6, .int fo), (7, .int (nI wv)), (8, .int (bB false)), (9, .int (SW wv (bpN sd al))), (10, .int (nI 2))]) O dL_isBowSo_146 (by decide) [1, 2, 3, 4, 5, 6, 7, 8, 9, 10, 0] rfl ?_
                  refine g_iload O dL_isBowSo_148 10 rfl ?_
                  refine g_if_neN (tgt := 158) O (by omega) dL_isBowSo_150 (by decide) (fun c_36 => ?_) (fun c_36 => absurd c_36 (by decide))
                  refine g_iload O dL_isBowSo_158 6 rfl ?_
                  refine g_istore (L' := [(0, .ref (a 0)), (1, .int (nI sd)), (2, .int (nI al)), (3, .int (laM (orM (wyO (p_s P) (bpN sd al))))), (4, .int (nI (bpN sd al))), (5, .int (bB ah)), (6, .int fo), (7, .int (nI wv)), (8, .int (bB false)), (9, .int (SW wv (bpN sd al))), (10, .int (nI 2))]) O dL_isBowSo_160 (by decide) [1, 2, 3, 4, 5, 6, 0, 7, 8, 9, 10] rfl ?_
                  refine g_iload O dL_isBowSo_162 5 rfl ?_
                  refine g_if_eqB (tgt := 176) O dL_isBowSo_164 (by decide) (fun c_37 => ?_) (fun c_37 => ?_)
                  ·
                    subst c_37
                    refine g_iconst (x := (nI 0)) O dL_isBowSo_176 (by decide +kernel) ?_
                    refine g_istore (L' := [(0, .ref (a 0)), (1, .int (nI sd)), (2, .int (nI al)), (3, .int (laM (orM (wyO (p_s P) (bpN sd al))))), (4, .int (nI (bpN sd al))), (5, .int (nI 0)), (6, .int fo), (7, .int (nI wv)), (8, .int (bB false)), (9, .int (SW wv (bpN sd al))), (10, .int (nI 2))]) O dL_isBowSo_177 (by decide) [1, 2, 3, 4, 5, 0, 6, 7, 8, 9, 10] rfl ?_
                    refine g_aload_n O dL_isBowSo_179 0 rfl rfl ?_
                    refine g_iload O dL_isBowSo_180 7 rfl ?_
                    refine g_iload_n O dL_isBowSo_182 1 rfl rfl ?_
                    refine g_iload_n O dL_isBowSo_183 2 rfl rfl ?_
                    refine g_callW (As := [.int (nI wv), .int (nI sd), .int (nI al)]) (Aw := wX D a P J_10) O (X_why_ok l D z a P wv sd al J_10 hI.1 hB (by first | omega | assumption) (by first | omega | assumption) (by first | omega | assumption)) gL_isBowSo_X8_why rfl rfl rfl 3 (by decide +kernel) (by decide) (by decide) rfl rfl rfl rfl rfl (Nat.le_of_ble_eq_true rfl) dL_isBowSo_184 (fun r9 w9 hp => ?_)
                    obtain ⟨rfl, J_38, rfl⟩ := hp
                    refine g_eq (st' := [.int (nI (rsN (p_s P) wv (bpN sd al)))]) (ws' := wX D a P J_38) rfl rfl rfl ?_
                    refine g_iload O dL_isBowSo_187 10 rfl ?_
                    refine g_icmp_neN (tgt := 247) O (by omega) (by omega) dL_isBowSo_189 (by decide) (fun c_39 => (by exact absurd hrs c_39)) (fun c_39 => ?_)
                    refine g_aload_n O dL_isBowSo_192 0 rfl rfl ?_
                    refine g_iload O dL_isBowSo_193 7 rfl ?_
                    refine g_bipush (x := (nI 7)) O dL_isBowSo_195 (by decide +kernel) ?_
                    refine g_callW (As := [.int (nI wv), .int (nI 7)]) (Aw := wX D a P J_38) O (X_way_7 l D z a P wv J_38 hI.1 hB (by first | omega | assumption)) gL_isBowSo_X8_way rfl rfl rfl 2 (by decide +kernel) (by decide) (by decide) rfl rfl rfl rfl rfl (Nat.le_of_ble_eq_true rfl) dL_isBowSo_197 (fun r9 w9 hp => ?_)
                    obtain ⟨rfl, J_40, rfl⟩ := hp
                    refine g_eq (st' := [.int (bB (clB (p_s P) wv))]) (ws' := wX D a P J_40) rfl rfl rfl ?_
                    refine g_iload O dL_isBowSo_200 8 rfl ?_
                    refine g_if_eqB (tgt := 209) O dL_isBowSo_202 (by decide) (fun c_41 => ?_) (fun c_41 => absurd c_41 (by decide))
                    refine g_iconst (x := (nI 1)) O dL_isBowSo_209 (by decide +kernel) ?_
                    refine g_icmp_ne (tgt := 247) O dL_isBowSo_210 (by decide) (fun c_42 => (by exact absurd (by rw [hcB]; rfl) c_42)) (fun c_42 => ?_)
                    refine g_iload O dL_isBowSo_213 9 rfl ?_
                    refine g_aload_n O dL_isBowSo_215 0 rfl rfl ?_
                    refine g_iload O dL_isBowSo_216 7 rfl ?_
                    refine g_iload O dL_isBowSo_218 4 rfl ?_
                    refine g_bipush (x := (nI 12)) O dL_isBowSo_220 (by decide +kernel) ?_
                    refine g_idivN O (by omega) (by omega) (by omega) dL_isBowSo_222 ?_
                    refine g_iload O dL_isBowSo_223 4 rfl ?_
                    refine g_bipush (x := (nI 12)) O dL_isBowSo_225 (by decide +kernel) ?_
                    refine g_iremN O (by omega) (by omega) (by omega) dL_isBowSo_227 ?_
                    refine g_callW (As := [.int (nI wv), .int (nI ((bpN sd al) / 12)), .int (nI ((bpN sd al) % 12))]) (Aw := wX D a P J_40) O (X_swing_ok l D z a P wv ((bpN sd al) / 12) ((bpN sd al) % 12) J_40 hI.1 hB (by first | omega | assumption) (by first | omega | assumption) (by first | omega | assumption)) gL_isBowSo_X8_swing rfl rfl rfl 3 (by decide +kernel) (by decide) (by decide) rfl rfl rfl rfl rfl (Nat.le_of_ble_eq_true rfl) dL_isBowSo_228 (fun r9 w9 hp => ?_)
                    obtain ⟨rfl, J_43, rfl⟩ := hp
                    refine g_eq (st' := [.int (SW wv (12 * ((bpN sd al) % 12) + ((bpN sd al) / 12))), .int (SW wv (bpN sd al))]) (ws' := wX D a P J_43) rfl rfl rfl ?_
                    refine g_eq (st' := [.int (SW wv (bpN sd al)), .int (SW wv (bpN sd al))]) (by rw [SW_sym (by omega) hbp]) rfl rfl ?_
                    refine g_icmp_ne (tgt := 247) O dL_isBowSo_231 (by decide) (fun c_44 => (by exact absurd rfl c_44)) (fun c_44 => ?_)
                    refine g_iload O dL_isBowSo_234 9 rfl ?_
                    refine g_if_lt (tgt := 247) O dL_isBowSo_236 (by decide) (fun c_45 => (by exact absurd c_45 (SW_ge (by omega) hbp))) (fun c_45 => ?_)
                    refine g_iload O dL_isBowSo_239 9 rfl ?_
                    refine g_sipush (x := (nI 200)) O dL_isBowSo_241 (by decide +kernel) ?_
                    refine g_icmp_le (tgt := 249) O dL_isBowSo_244 (by decide) (fun c_46 => ?_) (fun c_46 => (by exact absurd (Int32.not_lt.mp (SW_le (by omega) hbp)) c_46))
                    refine g_iincN (L' := [(0, .ref (a 0)), (1, .int (nI sd)), (2, .int (nI al)), (3, .int (laM (orM (wyO (p_s P) (bpN sd al))))), (4, .int (nI (bpN sd al))), (5, .int (nI 0)), (6, .int fo), (7, .int (nI (wv + 1))), (8, .int (bB false)), (9, .int (SW wv (bpN sd al))), (10, .int (nI 2))]) O dL_isBowSo_249 7 rfl (by decide) [1, 2, 3, 4, 5, 6, 7, 0, 8, 9, 10] rfl ?_
                    refine g_goto (tgt := 24) O dL_isBowSo_252 (by decide) ?_
                    refine g_locals (L' := [(0, .ref (a 0)), (1, .int (nI sd)), (2, .int (nI al)), (3, .int (laM (orM (wyO (p_s P) (bpN sd al))))), (4, .int (nI (bpN sd al))), (5, .int (bB false)), (6, .int fo), (7, .int (nI (wv + 1))), (8, .int (bB false)), (9, .int (SW wv (bpN sd al))), (10, .int (nI 2))]) [0, 1, 2, 3, 4, 5, 6, 7, 8, 9, 10] rfl ?_
                    refine g_locals (L' := [(0, .ref (a 0)), (1, .int (nI sd)), (2, .int (nI al)), (3, .int (laM (orM (wyO (p_s P) (bpN sd al))))), (4, .int (nI (bpN sd al))), (5, .int (bB false)), (6, .int fo), (7, .int (nI (wv + 1)))]) [0, 1, 2, 3, 4, 5, 6, 7] rfl ?_
                    exact ih1 (wv + 1) false fo J_43 (by omega) (by rw [hFn]; first | rfl | exact hah) (by rw [hFn]; first | rfl | exact hfo) (by omega)
                  ·
                    subst c_37
                    refine g_iload O dL_isBowSo_167 10 rfl ?_
                    refine g_if_eqN (tgt := 176) O (by omega) dL_isBowSo_169 (by decide) (fun c_47 => absurd c_47 (by decide)) (fun c_47 => ?_)
                    refine g_iconst (x := (nI 1)) O dL_isBowSo_172 (by decide +kernel) ?_
                    refine g_goto (tgt := 177) O dL_isBowSo_173 (by decide) ?_
                    refine g_istore (L' := [(0, .ref (a 0)), (1, .int (nI sd)), (2, .int (nI al)), (3, .int (laM (orM (wyO (p_s P) (bpN sd al))))), (4, .int (nI (bpN sd al))), (5, .int (nI 1)), (6, .int fo), (7, .int (nI wv)), (8, .int (bB false)), (9, .int (SW wv (bpN sd al))), (10, .int (nI 2))]) O dL_isBowSo_177 (by decide) [1, 2, 3, 4, 5, 0, 6, 7, 8, 9, 10] rfl ?_
                    refine g_aload_n O dL_isBowSo_179 0 rfl rfl ?_
                    refine g_iload O dL_isBowSo_180 7 rfl ?_
                    refine g_iload_n O dL_isBowSo_182 1 rfl rfl ?_
                    refine g_iload_n O dL_isBowSo_183 2 rfl rfl ?_
                    refine g_callW (As := [.int (nI wv), .int (nI sd), .int (nI al)]) (Aw := wX D a P J_10) O (X_why_ok l D z a P wv sd al J_10 hI.1 hB (by first | omega | assumption) (by first | omega | assumption) (by first | omega | assumption)) gL_isBowSo_X8_why rfl rfl rfl 3 (by decide +kernel) (by decide) (by decide) rfl rfl rfl rfl rfl (Nat.le_of_ble_eq_true rfl) dL_isBowSo_184 (fun r9 w9 hp => ?_)
                    obtain ⟨rfl, J_48, rfl⟩ := hp
                    refine g_eq (st' := [.int (nI (rsN (p_s P) wv (bpN sd al)))]) (ws' := wX D a P J_48) rfl rfl rfl ?_
                    refine g_iload O dL_isBowSo_187 10 rfl ?_
                    refine g_icmp_neN (tgt := 247) O (by omega) (by omega) dL_isBowSo_189 (by decide) (fun c_49 => (by exact absurd hrs c_49)) (fun c_49 => ?_)
                    refine g_aload_n O dL_isBowSo_192 0 rfl rfl ?_
                    refine g_iload O dL_isBowSo_193 7 rfl ?_
                    refine g_bipush (x := (nI 7)) O dL_isBowSo_195 (by decide +kernel) ?_
                    refine g_callW (As := [.int (nI wv), .int (nI 7)]) (Aw := wX D a P J_48) O (X_way_7 l D z a P wv J_48 hI.1 hB (by first | omega | assumption)) gL_isBowSo_X8_way rfl rfl rfl 2 (by decide +kernel) (by decide) (by decide) rfl rfl rfl rfl rfl (Nat.le_of_ble_eq_true rfl) dL_isBowSo_197 (fun r9 w9 hp => ?_)
                    obtain ⟨rfl, J_50, rfl⟩ := hp
                    refine g_eq (st' := [.int (bB (clB (p_s P) wv))]) (ws' := wX D a P J_50) rfl rfl rfl ?_
                    refine g_iload O dL_isBowSo_200 8 rfl ?_
                    refine g_if_eqB (tgt := 209) O dL_isBowSo_202 (by decide) (fun c_51 => ?_) (fun c_51 => absurd c_51 (by decide))
                    refine g_iconst (x := (nI 1)) O dL_isBowSo_209 (by decide +kernel) ?_
                    refine g_icmp_ne (tgt := 247) O dL_isBowSo_210 (by decide) (fun c_52 => (by exact absurd (by rw [hcB]; rfl) c_52)) (fun c_52 => ?_)
                    refine g_iload O dL_isBowSo_213 9 rfl ?_
                    refine g_aload_n O dL_isBowSo_215 0 rfl rfl ?_
                    refine g_iload O dL_isBowSo_216 7 rfl ?_
                    refine g_iload O dL_isBowSo_218 4 rfl ?_
                    refine g_bipush (x := (nI 12)) O dL_isBowSo_220 (by decide +kernel) ?_
                    refine g_idivN O (by omega) (by omega) (by omega) dL_isBowSo_222 ?_
                    refine g_iload O dL_isBowSo_223 4 rfl ?_
                    refine g_bipush (x := (nI 12)) O dL_isBowSo_225 (by decide +kernel) ?_
                    refine g_iremN O (by omega) (by omega) (by omega) dL_isBowSo_227 ?_
                    refine g_callW (As := [.int (nI wv), .int (nI ((bpN sd al) / 12)), .int (nI ((bpN sd al) % 12))]) (Aw := wX D a P J_50) O (X_swing_ok l D z a P wv ((bpN sd al) / 12) ((bpN sd al) % 12) J_50 hI.1 hB (by first | omega | assumption) (by first | omega | assumption) (by first | omega | assumption)) gL_isBowSo_X8_swing rfl rfl rfl 3 (by decide +kernel) (by decide) (by decide) rfl rfl rfl rfl rfl (Nat.le_of_ble_eq_true rfl) dL_isBowSo_228 (fun r9 w9 hp => ?_)
                    obtain ⟨rfl, J_53, rfl⟩ := hp
                    refine g_eq (st' := [.int (SW wv (12 * ((bpN sd al) % 12) + ((bpN sd al) / 12))), .int (SW wv (bpN sd al))]) (ws' := wX D a P J_53) rfl rfl rfl ?_
                    refine g_eq (st' := [.int (SW wv (bpN sd al)), .int (SW wv (bpN sd al))]) (by rw [SW_sym (by omega) hbp]) rfl rfl ?_
                    refine g_icmp_ne (tgt := 247) O dL_isBowSo_231 (by decide) (fun c_54 => (by exact absurd rfl c_54)) (fun c_54 => ?_)
                    refine g_iload O dL_isBowSo_234 9 rfl ?_
                    refine g_if_lt (tgt := 247) O dL_isBowSo_236 (by decide) (fun c_55 => (by exact absurd c_55 (SW_ge (by omega) hbp))) (fun c_55 => ?_)
                    refine g_iload O dL_isBowSo_239 9 rfl ?_
                    refine g_sipush (x := (nI 200)) O dL_isBowSo_241 (by decide +kernel) ?_
                    refine g_icmp_le (tgt := 249) O dL_isBowSo_244 (by decide) (fun c_56 => ?_) (fun c_56 => (by exact absurd (Int32.not_lt.mp (SW_le (by omega) hbp)) c_56))
                    refine g_iincN (L' := [(0, .ref (a 0)), (1, .int (nI sd)), (2, .int (nI al)), (3, .int (laM (orM (wyO (p_s P) (bpN sd al))))), (4, .int (nI (bpN sd al))), (5, .int (nI 1)), (6, .int fo), (7, .int (nI (wv + 1))), (8, .int (bB false)), (9, .int (SW wv (bpN sd al))), (10, .int (nI 2))]) O dL_isBowSo_249 7 rfl (by decide) [1, 2, 3, 4, 5, 6, 7, 0, 8, 9, 10] rfl ?_
                    refine g_goto (tgt := 24) O dL_isBowSo_252 (by decide) ?_
                    refine g_locals (L' := [(0, .ref (a 0)), (1, .int (nI sd)), (2, .int (nI al)), (3, .int (laM (orM (wyO (p_s P) (bpN sd al))))), (4, .int (nI (bpN sd al))), (5, .int (bB true)), (6, .int fo), (7, .int (nI (wv + 1))), (8, .int (bB false)), (9, .int (SW wv (bpN sd al))), (10, .int (nI 2))]) [0, 1, 2, 3, 4, 5, 6, 7, 8, 9, 10] rfl ?_
                    refine g_locals (L' := [(0, .ref (a 0)), (1, .int (nI sd)), (2, .int (nI al)), (3, .int (laM (orM (wyO (p_s P) (bpN sd al))))), (4, .int (nI (bpN sd al))), (5, .int (bB true)), (6, .int fo), (7, .int (nI (wv + 1)))]) [0, 1, 2, 3, 4, 5, 6, 7] rfl ?_
                    exact ih1 (wv + 1) true fo J_53 (by omega) (by rw [hFn]; first | rfl | exact hah) (by rw [hFn]; first | rfl | exact hfo) (by omega)
              ·
                subst c_9
                have hcB : clB (p_s P) wv = false := by cases hz : clB (p_s P) wv; rfl; (rw [hz] at hcl; cases hcl)
                have hrs := rs_held (p := (bpN sd al)) hcB
                have hFn : (fdB (okB (p_s P) (bpN sd al)) (wv + 1)) = (fdB (okB (p_s P) (bpN sd al)) wv) := fdB_f (by show (bwB (p_s P) wv (bpN sd al) && clB (p_s P) wv) = false; rw [hcB]; simp)
                refine g_iconst (x := (nI 1)) O dL_isBowSo_117 (by decide +kernel) ?_
                refine g_goto (tgt := 146) O dL_isBowSo_118 (by decide) ?_
                refine g_istore (L' := [(0, .ref (a 0)), (1, .int (nI sd)), (2, .int (nI al)), (3, .int (laM (orM (wyO (p_s P) (bpN sd al))))), (4, .int (nI (bpN sd al))), (5, .int (bB ah)), (6, .int fo), (7, .int (nI wv)), (8, .int (bB true)), (9, .int (SW wv (bpN sd al))), (10, .int (nI 1))]) O dL_isBowSo_146 (by decide) [1, 2, 3, 4, 5, 6, 7, 8, 9, 10, 0] rfl ?_
                refine g_iload O dL_isBowSo_148 10 rfl ?_
                refine g_if_neN (tgt := 158) O (by omega) dL_isBowSo_150 (by decide) (fun c_57 => ?_) (fun c_57 => absurd c_57 (by decide))
                refine g_iload O dL_isBowSo_158 6 rfl ?_
                refine g_istore (L' := [(0, .ref (a 0)), (1, .int (nI sd)), (2, .int (nI al)), (3, .int (laM (orM (wyO (p_s P) (bpN sd al))))), (4, .int (nI (bpN sd al))), (5, .int (bB ah)), (6, .int fo), (7, .int (nI wv)), (8, .int (bB true)), (9, .int (SW wv (bpN sd al))), (10, .int (nI 1))]) O dL_isBowSo_160 (by decide) [1, 2, 3, 4, 5, 6, 0, 7, 8, 9, 10] rfl ?_
                refine g_iload O dL_isBowSo_162 5 rfl ?_
                refine g_if_eqB (tgt := 176) O dL_isBowSo_164 (by decide) (fun c_58 => ?_) (fun c_58 => ?_)
                ·
                  subst c_58
                  refine g_iconst (x := (nI 0)) O dL_isBowSo_176 (by decide +kernel) ?_
                  refine g_istore (L' := [(0, .ref (a 0)), (1, .int (nI sd)), (2, .int (nI al)), (3, .int (laM (orM (wyO (p_s P) (bpN sd al))))), (4, .int (nI (bpN sd al))), (5, .int (nI 0)), (6, .int fo), (7, .int (nI wv)), (8, .int (bB true)), (9, .int (SW wv (bpN sd al))), (10, .int (nI 1))]) O dL_isBowSo_177 (by decide) [1, 2, 3, 4, 5, 0, 6, 7, 8, 9, 10] rfl ?_
                  refine g_aload_n O dL_isBowSo_179 0 rfl rfl ?_
                  refine g_iload O dL_isBowSo_180 7 rfl ?_
                  refine g_iload_n O dL_isBowSo_182 1 rfl rfl ?_
                  refine g_iload_n O dL_isBowSo_183 2 rfl rfl ?_
                  refine g_callW (As := [.int (nI wv), .int (nI sd), .int (nI al)]) (Aw := wX D a P J_8) O (X_why_ok l D z a P wv sd al J_8 hI.1 hB (by first | omega | assumption) (by first | omega | assumption) (by first | omega | assumption)) gL_isBowSo_X8_why rfl rfl rfl 3 (by decide +kernel) (by decide) (by decide) rfl rfl rfl rfl rfl (Nat.le_of_ble_eq_true rfl) dL_isBowSo_184 (fun r9 w9 hp => ?_)
                  obtain ⟨rfl, J_59, rfl⟩ := hp
                  refine g_eq (st' := [.int (nI (rsN (p_s P) wv (bpN sd al)))]) (ws' := wX D a P J_59) rfl rfl rfl ?_
                  refine g_iload O dL_isBowSo_187 10 rfl ?_
                  refine g_icmp_neN (tgt := 247) O (by omega) (by omega) dL_isBowSo_189 (by decide) (fun c_60 => (by exact absurd hrs c_60)) (fun c_60 => ?_)
                  refine g_aload_n O dL_isBowSo_192 0 rfl rfl ?_
                  refine g_iload O dL_isBowSo_193 7 rfl ?_
                  refine g_bipush (x := (nI 7)) O dL_isBowSo_195 (by decide +kernel) ?_
                  refine g_callW (As := [.int (nI wv), .int (nI 7)]) (Aw := wX D a P J_59) O (X_way_7 l D z a P wv J_59 hI.1 hB (by first | omega | assumption)) gL_isBowSo_X8_way rfl rfl rfl 2 (by decide +kernel) (by decide) (by decide) rfl rfl rfl rfl rfl (Nat.le_of_ble_eq_true rfl) dL_isBowSo_197 (fun r9 w9 hp => ?_)
                  obtain ⟨rfl, J_61, rfl⟩ := hp
                  refine g_eq (st' := [.int (bB (clB (p_s P) wv))]) (ws' := wX D a P J_61) rfl rfl rfl ?_
                  refine g_iload O dL_isBowSo_200 8 rfl ?_
                  refine g_if_eqB (tgt := 209) O dL_isBowSo_202 (by decide) (fun c_62 => absurd c_62 (by decide)) (fun c_62 => ?_)
                  refine g_iconst (x := (nI 0)) O dL_isBowSo_205 (by decide +kernel) ?_
                  refine g_goto (tgt := 210) O dL_isBowSo_206 (by decide) ?_
                  refine g_icmp_ne (tgt := 247) O dL_isBowSo_210 (by decide) (fun c_63 => (by exact absurd (by rw [hcB]; rfl) c_63)) (fun c_63 => ?_)
                  refine g_iload O dL_isBowSo_213 9 rfl ?_
                  refine g_aload_n O dL_isBowSo_215 0 rfl rfl ?_
                  refine g_iload O dL_isBowSo_216 7 rfl ?_
                  refine g_iload O dL_isBowSo_218 4 rfl ?_
                  refine g_bipush (x := (nI 12)) O dL_isBowSo_220 (by decide +kernel) ?_
                  refine g_idivN O (by omega) (by omega) (by omega) dL_isBowSo_222 ?_
                  refine g_iload O dL_isBowSo_223 4 rfl ?_
                  refine g_bipush (x := (nI 12)) O dL_isBowSo_225 (by decide +kernel) ?_
                  refine g_iremN O (by omega) (by omega) (by omega) dL_isBowSo_227 ?_
                  refine g_callW (As := [.int (nI wv), .int (nI ((bpN sd al) / 12)), .int (nI ((bpN sd al) % 12))]) (Aw := wX D a P J_61) O (X_swing_ok l D z a P wv ((bpN sd al) / 12) ((bpN sd al) % 12) J_61 hI.1 hB (by first | omega | assumption) (by first | omega | assumption) (by first | omega | assumption)) gL_isBowSo_X8_swing rfl rfl rfl 3 (by decide +kernel) (by decide) (by decide) rfl rfl rfl rfl rfl (Nat.le_of_ble_eq_true rfl) dL_isBowSo_228 (fun r9 w9 hp => ?_)
                  obtain ⟨rfl, J_64, rfl⟩ := hp
                  refine g_eq (st' := [.int (SW wv (12 * ((bpN sd al) % 12) + ((bpN sd al) / 12))), .int (SW wv (bpN sd al))]) (ws' := wX D a P J_64) rfl rfl rfl ?_
                  refine g_eq (st' := [.int (SW wv (bpN sd al)), .int (SW wv (bpN sd al))]) (by rw [SW_sym (by omega) hbp]) rfl rfl ?_
                  refine g_icmp_ne (tgt := 247) O dL_isBowSo_231 (by decide) (fun c_65 => (by exact absurd rfl c_65)) (fun c_65 => ?_)
                  refine g_iload O dL_isBowSo_234 9 rfl ?_
                  refine g_if_lt (tgt := 247) O dL_isBowSo_236 (by decide) (fun c_66 => (by exact absurd c_66 (SW_ge (by omega) hbp))) (fun c_66 => ?_)
                  refine g_iload O dL_isBowSo_239 9 rfl ?_
                  refine g_sipush (x := (nI 200)) O dL_isBowSo_241 (by decide +kernel) ?_
                  refine g_icmp_le (tgt := 249) O dL_isBowSo_244 (by decide) (fun c_67 => ?_) (fun c_67 => (by exact absurd (Int32.not_lt.mp (SW_le (by omega) hbp)) c_67))
                  refine g_iincN (L' := [(0, .ref (a 0)), (1, .int (nI sd)), (2, .int (nI al)), (3, .int (laM (orM (wyO (p_s P) (bpN sd al))))), (4, .int (nI (bpN sd al))), (5, .int (nI 0)), (6, .int fo), (7, .int (nI (wv + 1))), (8, .int (bB true)), (9, .int (SW wv (bpN sd al))), (10, .int (nI 1))]) O dL_isBowSo_249 7 rfl (by decide) [1, 2, 3, 4, 5, 6, 7, 0, 8, 9, 10] rfl ?_
                  refine g_goto (tgt := 24) O dL_isBowSo_252 (by decide) ?_
                  refine g_locals (L' := [(0, .ref (a 0)), (1, .int (nI sd)), (2, .int (nI al)), (3, .int (laM (orM (wyO (p_s P) (bpN sd al))))), (4, .int (nI (bpN sd al))), (5, .int (bB false)), (6, .int fo), (7, .int (nI (wv + 1))), (8, .int (bB true)), (9, .int (SW wv (bpN sd al))), (10, .int (nI 1))]) [0, 1, 2, 3, 4, 5, 6, 7, 8, 9, 10] rfl ?_
                  refine g_locals (L' := [(0, .ref (a 0)), (1, .int (nI sd)), (2, .int (nI al)), (3, .int (laM (orM (wyO (p_s P) (bpN sd al))))), (4, .int (nI (bpN sd al))), (5, .int (bB false)), (6, .int fo), (7, .int (nI (wv + 1)))]) [0, 1, 2, 3, 4, 5, 6, 7] rfl ?_
                  exact ih1 (wv + 1) false fo J_64 (by omega) (by rw [hFn]; first | rfl | exact hah) (by rw [hFn]; first | rfl | exact hfo) (by omega)
                ·
                  subst c_58
                  refine g_iload O dL_isBowSo_167 10 rfl ?_
                  refine g_if_eqN (tgt := 176) O (by omega) dL_isBowSo_169 (by decide) (fun c_68 => absurd c_68 (by decide)) (fun c_68 => ?_)
                  refine g_iconst (x := (nI 1)) O dL_isBowSo_172 (by decide +kernel) ?_
                  refine g_goto (tgt := 177) O dL_isBowSo_173 (by decide) ?_
                  refine g_istore (L' := [(0, .ref (a 0)), (1, .int (nI sd)), (2, .int (nI al)), (3, .int (laM (orM (wyO (p_s P) (bpN sd al))))), (4, .int (nI (bpN sd al))), (5, .int (nI 1)), (6, .int fo), (7, .int (nI wv)), (8, .int (bB true)), (9, .int (SW wv (bpN sd al))), (10, .int (nI 1))]) O dL_isBowSo_177 (by decide) [1, 2, 3, 4, 5, 0, 6, 7, 8, 9, 10] rfl ?_
                  refine g_aload_n O dL_isBowSo_179 0 rfl rfl ?_
                  refine g_iload O dL_isBowSo_180 7 rfl ?_
                  refine g_iload_n O dL_isBowSo_182 1 rfl rfl ?_
                  refine g_iload_n O dL_isBowSo_183 2 rfl rfl ?_
                  refine g_callW (As := [.int (nI wv), .int (nI sd), .int (nI al)]) (Aw := wX D a P J_8) O (X_why_ok l D z a P wv sd al J_8 hI.1 hB (by first | omega | assumption) (by first | omega | assumption) (by first | omega | assumption)) gL_isBowSo_X8_why rfl rfl rfl 3 (by decide +kernel) (by decide) (by decide) rfl rfl rfl rfl rfl (Nat.le_of_ble_eq_true rfl) dL_isBowSo_184 (fun r9 w9 hp => ?_)
                  obtain ⟨rfl, J_69, rfl⟩ := hp
                  refine g_eq (st' := [.int (nI (rsN (p_s P) wv (bpN sd al)))]) (ws' := wX D a P J_69) rfl rfl rfl ?_
                  refine g_iload O dL_isBowSo_187 10 rfl ?_
                  refine g_icmp_neN (tgt := 247) O (by omega) (by omega) dL_isBowSo_189 (by decide) (fun c_70 => (by exact absurd hrs c_70)) (fun c_70 => ?_)
                  refine g_aload_n O dL_isBowSo_192 0 rfl rfl ?_
                  refine g_iload O dL_isBowSo_193 7 rfl ?_
                  refine g_bipush (x := (nI 7)) O dL_isBowSo_195 (by decide +kernel) ?_
                  refine g_callW (As := [.int (nI wv), .int (nI 7)]) (Aw := wX D a P J_69) O (X_way_7 l D z a P wv J_69 hI.1 hB (by first | omega | assumption)) gL_isBowSo_X8_way rfl rfl rfl 2 (by decide +kernel) (by decide) (by decide) rfl rfl rfl rfl rfl (Nat.le_of_ble_eq_true rfl) dL_isBowSo_197 (fun r9 w9 hp => ?_)
                  obtain ⟨rfl, J_71, rfl⟩ := hp
                  refine g_eq (st' := [.int (bB (clB (p_s P) wv))]) (ws' := wX D a P J_71) rfl rfl rfl ?_
                  refine g_iload O dL_isBowSo_200 8 rfl ?_
                  refine g_if_eqB (tgt := 209) O dL_isBowSo_202 (by decide) (fun c_72 => absurd c_72 (by decide)) (fun c_72 => ?_)
                  refine g_iconst (x := (nI 0)) O dL_isBowSo_205 (by decide +kernel) ?_
                  refine g_goto (tgt := 210) O dL_isBowSo_206 (by decide) ?_
                  refine g_icmp_ne (tgt := 247) O dL_isBowSo_210 (by decide) (fun c_73 => (by exact absurd (by rw [hcB]; rfl) c_73)) (fun c_73 => ?_)
                  refine g_iload O dL_isBowSo_213 9 rfl ?_
                  refine g_aload_n O dL_isBowSo_215 0 rfl rfl ?_
                  refine g_iload O dL_isBowSo_216 7 rfl ?_
                  refine g_iload O dL_isBowSo_218 4 rfl ?_
                  refine g_bipush (x := (nI 12)) O dL_isBowSo_220 (by decide +kernel) ?_
                  refine g_idivN O (by omega) (by omega) (by omega) dL_isBowSo_222 ?_
                  refine g_iload O dL_isBowSo_223 4 rfl ?_
                  refine g_bipush (x := (nI 12)) O dL_isBowSo_225 (by decide +kernel) ?_
                  refine g_iremN O (by omega) (by omega) (by omega) dL_isBowSo_227 ?_
                  refine g_callW (As := [.int (nI wv), .int (nI ((bpN sd al) / 12)), .int (nI ((bpN sd al) % 12))]) (Aw := wX D a P J_71) O (X_swing_ok l D z a P wv ((bpN sd al) / 12) ((bpN sd al) % 12) J_71 hI.1 hB (by first | omega | assumption) (by first | omega | assumption) (by first | omega | assumption)) gL_isBowSo_X8_swing rfl rfl rfl 3 (by decide +kernel) (by decide) (by decide) rfl rfl rfl rfl rfl (Nat.le_of_ble_eq_true rfl) dL_isBowSo_228 (fun r9 w9 hp => ?_)
                  obtain ⟨rfl, J_74, rfl⟩ := hp
                  refine g_eq (st' := [.int (SW wv (12 * ((bpN sd al) % 12) + ((bpN sd al) / 12))), .int (SW wv (bpN sd al))]) (ws' := wX D a P J_74) rfl rfl rfl ?_
                  refine g_eq (st' := [.int (SW wv (bpN sd al)), .int (SW wv (bpN sd al))]) (by rw [SW_sym (by omega) hbp]) rfl rfl ?_
                  refine g_icmp_ne (tgt := 247) O dL_isBowSo_231 (by decide) (fun c_75 => (by exact absurd rfl c_75)) (fun c_75 => ?_)
                  refine g_iload O dL_isBowSo_234 9 rfl ?_
                  refine g_if_lt (tgt := 247) O dL_isBowSo_236 (by decide) (fun c_76 => (by exact absurd c_76 (SW_ge (by omega) hbp))) (fun c_76 => ?_)
                  refine g_iload O dL_isBowSo_239 9 rfl ?_
                  refine g_sipush (x := (nI 200)) O dL_isBowSo_241 (by decide +kernel) ?_
                  refine g_icmp_le (tgt := 249) O dL_isBowSo_244 (by decide) (fun c_77 => ?_) (fun c_77 => (by exact absurd (Int32.not_lt.mp (SW_le (by omega) hbp)) c_77))
                  refine g_iincN (L' := [(0, .ref (a 0)), (1, .int (nI sd)), (2, .int (nI al)), (3, .int (laM (orM (wyO (p_s P) (bpN sd al))))), (4, .int (nI (bpN sd al))), (5, .int (nI 1)), (6, .int fo), (7, .int (nI (wv + 1))), (8, .int (bB true)), (9, .int (SW wv (bpN sd al))), (10, .int (nI 1))]) O dL_isBowSo_249 7 rfl (by decide) [1, 2, 3, 4, 5, 6, 7, 0, 8, 9, 10] rfl ?_
                  refine g_goto (tgt := 24) O dL_isBowSo_252 (by decide) ?_
                  refine g_locals (L' := [(0, .ref (a 0)), (1, .int (nI sd)), (2, .int (nI al)), (3, .int (laM (orM (wyO (p_s P) (bpN sd al))))), (4, .int (nI (bpN sd al))), (5, .int (bB true)), (6, .int fo), (7, .int (nI (wv + 1))), (8, .int (bB true)), (9, .int (SW wv (bpN sd al))), (10, .int (nI 1))]) [0, 1, 2, 3, 4, 5, 6, 7, 8, 9, 10] rfl ?_
                  refine g_locals (L' := [(0, .ref (a 0)), (1, .int (nI sd)), (2, .int (nI al)), (3, .int (laM (orM (wyO (p_s P) (bpN sd al))))), (4, .int (nI (bpN sd al))), (5, .int (bB true)), (6, .int fo), (7, .int (nI (wv + 1)))]) [0, 1, 2, 3, 4, 5, 6, 7] rfl ?_
                  exact ih1 (wv + 1) true fo J_74 (by omega) (by rw [hFn]; first | rfl | exact hah) (by rw [hFn]; first | rfl | exact hfo) (by omega)
            ·
              refine g_iload O dL_isBowSo_47 8 rfl ?_
              refine g_if_neB (tgt := 81) O dL_isBowSo_49 (by decide) (fun c_78 => ?_) (fun c_78 => ?_)
              ·
                have hq1 : he = true := c_78
                refine g_iconst (x := (nI 1)) O dL_isBowSo_81 (by decide +kernel) ?_
                refine g_goto (tgt := 86) O dL_isBowSo_82 (by decide) ?_
                refine g_istore (L' := [(0, .ref (a 0)), (1, .int (nI sd)), (2, .int (nI al)), (3, .int (laM (orM (wyO (p_s P) (bpN sd al))))), (4, .int (nI (bpN sd al))), (5, .int (bB ah)), (6, .int fo), (7, .int (nI wv)), (8, .int (nI 1)), (9, .int (nI cv))]) O dL_isBowSo_86 (by decide) [1, 2, 3, 4, 5, 6, 7, 8, 0, 9] rfl ?_
                refine g_iincN (L' := [(0, .ref (a 0)), (1, .int (nI sd)), (2, .int (nI al)), (3, .int (laM (orM (wyO (p_s P) (bpN sd al))))), (4, .int (nI (bpN sd al))), (5, .int (bB ah)), (6, .int fo), (7, .int (nI wv)), (8, .int (nI 1)), (9, .int (nI (cv + 1)))]) O dL_isBowSo_88 9 rfl (by decide) [1, 2, 3, 4, 5, 6, 7, 8, 9, 0] rfl ?_
                refine g_goto (tgt := 37) O dL_isBowSo_91 (by decide) ?_
                refine g_locals (L' := [(0, .ref (a 0)), (1, .int (nI sd)), (2, .int (nI al)), (3, .int (laM (orM (wyO (p_s P) (bpN sd al))))), (4, .int (nI (bpN sd al))), (5, .int (bB ah)), (6, .int fo), (7, .int (nI wv)), (8, .int (bB true)), (9, .int (nI (cv + 1)))]) [0, 1, 2, 3, 4, 5, 6, 7, 8, 9] rfl ?_
                exact ih2 (cv + 1) true J_6 (by omega) (by rw [hdB_s, ← hhe, hq1]; first | rfl | (rw [hq2]; rfl)) (by omega)
              ·
                have hq1 : he = false := c_78
                refine g_aload_n O dL_isBowSo_52 0 rfl rfl ?_
                refine g_iload O dL_isBowSo_53 7 rfl ?_
                refine g_aload_n O dL_isBowSo_55 0 rfl rfl ?_
                refine g_iload O dL_isBowSo_56 9 rfl ?_
                refine g_iconst (x := (nI 0)) O dL_isBowSo_58 (by decide +kernel) ?_
                refine g_eq (st' := [.int (bB false), .int (nI cv), .ref (a 0), .int (nI wv), .ref (a 0)]) (rfl) rfl rfl ?_
                refine g_callW (As := [.int (nI cv), .int (bB false)]) (Aw := wX D a P J_6) O (X_clampAt_ok l D z a P cv false J_6 hI.1 hB (by first | omega | assumption)) gL_isBowSo_X8_clampAt rfl rfl rfl 2 (by decide +kernel) (by decide) (by decide) rfl rfl rfl rfl rfl (Nat.le_of_ble_eq_true rfl) dL_isBowSo_59 (fun r9 w9 hp => ?_)
                obtain ⟨rfl, J_79, rfl⟩ := hp
                refine g_eq (st' := [.int (nI (if false = true then sv_cr (p_s P) cv else sv_cc (p_s P) cv)), .int (nI wv), .ref (a 0)]) (ws' := wX D a P J_79) rfl rfl rfl ?_
                refine g_eq (st' := [.int (nI (sv_cc (p_s P) cv)), .int (nI wv), .ref (a 0)]) (rfl) rfl rfl ?_
                refine g_aload_n O dL_isBowSo_62 0 rfl rfl ?_
                refine g_iload O dL_isBowSo_63 9 rfl ?_
                refine g_iconst (x := (nI 1)) O dL_isBowSo_65 (by decide +kernel) ?_
                refine g_eq (st' := [.int (bB true), .int (nI cv), .ref (a 0), .int (nI (sv_cc (p_s P) cv)), .int (nI wv), .ref (a 0)]) (rfl) rfl rfl ?_
                refine g_callW (As := [.int (nI cv), .int (bB true)]) (Aw := wX D a P J_79) O (X_clampAt_ok l D z a P cv true J_79 hI.1 hB (by first | omega | assumption)) gL_isBowSo_X8_clampAt rfl rfl rfl 2 (by decide +kernel) (by decide) (by decide) rfl rfl rfl rfl rfl (Nat.le_of_ble_eq_true rfl) dL_isBowSo_66 (fun r9 w9 hp => ?_)
                obtain ⟨rfl, J_80, rfl⟩ := hp
                refine g_eq (st' := [.int (nI (if true = true then sv_cr (p_s P) cv else sv_cc (p_s P) cv)), .int (nI (sv_cc (p_s P) cv)), .int (nI wv), .ref (a 0)]) (ws' := wX D a P J_80) rfl rfl rfl ?_
                refine g_eq (st' := [.int (nI (sv_cr (p_s P) cv)), .int (nI (sv_cc (p_s P) cv)), .int (nI wv), .ref (a 0)]) (rfl) rfl rfl ?_
                refine g_callW (As := [.int (nI wv), .int (nI (sv_cc (p_s P) cv)), .int (nI (sv_cr (p_s P) cv))]) (Aw := wX D a P J_80) O (X_swing_ok l D z a P wv (sv_cc (p_s P) cv) (sv_cr (p_s P) cv) J_80 hI.1 hB (by first | omega | assumption) (by have := hok.2.1 cv (by omega); omega) (by have := hok.2.1 cv (by omega); omega)) gL_isBowSo_X8_swing rfl rfl rfl 3 (by decide +kernel) (by decide) (by decide) rfl rfl rfl rfl rfl (Nat.le_of_ble_eq_true rfl) dL_isBowSo_69 (fun r9 w9 hp => ?_)
                obtain ⟨rfl, J_81, rfl⟩ := hp
                refine g_eq (st' := [.int (SW wv (12 * (sv_cr (p_s P) cv) + (sv_cc (p_s P) cv)))]) (ws' := wX D a P J_81) rfl rfl rfl ?_
                refine g_aload_n O dL_isBowSo_72 0 rfl rfl ?_
                refine g_bipush (x := (nI 11)) O dL_isBowSo_73 (by decide +kernel) ?_
                refine g_callW (As := [.int (nI 11)]) (Aw := wX D a P J_81) O (X_count_11 l D z a P J_81 hI.1 hB ) gL_isBowSo_X8_count rfl rfl rfl 1 (by decide +kernel) (by decide) (by decide) rfl rfl rfl rfl rfl (Nat.le_of_ble_eq_true rfl) dL_isBowSo_75 (fun r9 w9 hp => ?_)
                obtain ⟨rfl, J_82, rfl⟩ := hp
                refine g_eq (st' := [.int (sv_se (p_s P) 0), .int (SW wv (12 * (sv_cr (p_s P) cv) + (sv_cc (p_s P) cv)))]) (ws' := wX D a P J_82) rfl rfl rfl ?_
                refine g_icmp_le (tgt := 85) O dL_isBowSo_78 (by decide) (fun c_83 => ?_) (fun c_83 => ?_)
                ·
                  have hq2 : decide (SW wv (12 * sv_cr (p_s P) cv + sv_cc (p_s P) cv) ≤ sv_se (p_s P) 0) = true := decide_eq_true c_83
                  refine g_iconst (x := (nI 0)) O dL_isBowSo_85 (by decide +kernel) ?_
                  refine g_istore (L' := [(0, .ref (a 0)), (1, .int (nI sd)), (2, .int (nI al)), (3, .int (laM (orM (wyO (p_s P) (bpN sd al))))), (4, .int (nI (bpN sd al))), (5, .int (bB ah)), (6, .int fo), (7, .int (nI wv)), (8, .int (nI 0)), (9, .int (nI cv))]) O dL_isBowSo_86 (by decide) [1, 2, 3, 4, 5, 6, 7, 8, 0, 9] rfl ?_
                  refine g_iincN (L' := [(0, .ref (a 0)), (1, .int (nI sd)), (2, .int (nI al)), (3, .int (laM (orM (wyO (p_s P) (bpN sd al))))), (4, .int (nI (bpN sd al))), (5, .int (bB ah)), (6, .int fo), (7, .int (nI wv)), (8, .int (nI 0)), (9, .int (nI (cv + 1)))]) O dL_isBowSo_88 9 rfl (by decide) [1, 2, 3, 4, 5, 6, 7, 8, 9, 0] rfl ?_
                  refine g_goto (tgt := 37) O dL_isBowSo_91 (by decide) ?_
                  refine g_locals (L' := [(0, .ref (a 0)), (1, .int (nI sd)), (2, .int (nI al)), (3, .int (laM (orM (wyO (p_s P) (bpN sd al))))), (4, .int (nI (bpN sd al))), (5, .int (bB ah)), (6, .int fo), (7, .int (nI wv)), (8, .int (bB false)), (9, .int (nI (cv + 1)))]) [0, 1, 2, 3, 4, 5, 6, 7, 8, 9] rfl ?_
                  exact ih2 (cv + 1) false J_82 (by omega) (by rw [hdB_s, ← hhe, hq1]; first | rfl | (rw [hq2]; rfl)) (by omega)
                ·
                  have hq2 : decide (SW wv (12 * sv_cr (p_s P) cv + sv_cc (p_s P) cv) ≤ sv_se (p_s P) 0) = false := decide_eq_false c_83
                  refine g_iconst (x := (nI 1)) O dL_isBowSo_81 (by decide +kernel) ?_
                  refine g_goto (tgt := 86) O dL_isBowSo_82 (by decide) ?_
                  refine g_istore (L' := [(0, .ref (a 0)), (1, .int (nI sd)), (2, .int (nI al)), (3, .int (laM (orM (wyO (p_s P) (bpN sd al))))), (4, .int (nI (bpN sd al))), (5, .int (bB ah)), (6, .int fo), (7, .int (nI wv)), (8, .int (nI 1)), (9, .int (nI cv))]) O dL_isBowSo_86 (by decide) [1, 2, 3, 4, 5, 6, 7, 8, 0, 9] rfl ?_
                  refine g_iincN (L' := [(0, .ref (a 0)), (1, .int (nI sd)), (2, .int (nI al)), (3, .int (laM (orM (wyO (p_s P) (bpN sd al))))), (4, .int (nI (bpN sd al))), (5, .int (bB ah)), (6, .int fo), (7, .int (nI wv)), (8, .int (nI 1)), (9, .int (nI (cv + 1)))]) O dL_isBowSo_88 9 rfl (by decide) [1, 2, 3, 4, 5, 6, 7, 8, 9, 0] rfl ?_
                  refine g_goto (tgt := 37) O dL_isBowSo_91 (by decide) ?_
                  refine g_locals (L' := [(0, .ref (a 0)), (1, .int (nI sd)), (2, .int (nI al)), (3, .int (laM (orM (wyO (p_s P) (bpN sd al))))), (4, .int (nI (bpN sd al))), (5, .int (bB ah)), (6, .int fo), (7, .int (nI wv)), (8, .int (bB true)), (9, .int (nI (cv + 1)))]) [0, 1, 2, 3, 4, 5, 6, 7, 8, 9] rfl ?_
                  exact ih2 (cv + 1) true J_82 (by omega) (by rw [hdB_s, ← hhe, hq1]; first | rfl | (rw [hq2]; rfl)) (by omega)
        refine g_locals (L' := [(0, .ref (a 0)), (1, .int (nI sd)), (2, .int (nI al)), (3, .int (laM (orM (wyO (p_s P) (bpN sd al))))), (4, .int (nI (bpN sd al))), (5, .int (bB ah)), (6, .int fo), (7, .int (nI wv)), (8, .int (bB false)), (9, .int (nI 0))]) [0, 1, 2, 3, 4, 5, 6, 7, 8, 9] rfl ?_
        exact J37 _ 0 false J1_ (by omega) (rfl) (Nat.lt_succ_self _)
  refine g_locals (L' := [(0, .ref (a 0)), (1, .int (nI sd)), (2, .int (nI al)), (3, .int (laM (orM (wyO (p_s P) (bpN sd al))))), (4, .int (nI (bpN sd al))), (5, .int (bB true)), (6, .int (-5)), (7, .int (nI 0))]) [0, 1, 2, 3, 4, 5, 6, 7] rfl ?_
  exact J24 _ 0 true (-5) J_1 (by omega) (rfl) (rfl) (Nat.lt_succ_self _)
