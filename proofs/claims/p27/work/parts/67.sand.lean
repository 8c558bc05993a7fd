/-! isSandSo -/
set_option maxHeartbeats 4000000 in
set_option maxRecDepth 100000 in
theorem kL_isSandSo (l : Launch) (D : va_G) (z : Nat × Nat × Nat) (a : Nat → Nat) (P : PS) (J : JS) {Bd : Nat} (hI : IW Bd P) (hB : Bd < 1073741824) : CM l yL_isSandSo wsL_isSandSo ({ frames := 7, cells := 0, slots := 0, locals := 159 } : Room) D z [.ref (a 0)] (wX D a P J) (fun r w => r = some (.int (bB true)) ∧ ∃ J', w = wX D a P J') 0 0 := by
  refine CM_bool (own := RL) (cc := cL_isSandSo) (maxL := 9) (L0 := [(0, .ref (a 0))]) (by decide) rfl rfl (Nat.le_of_ble_eq_true rfl) rfl (fun X O E => ?_)
  have hok := hI.1.1
  have hnc := hok.1
  have hsm := hok.2.2.2.2.2
  refine g_iconst (x := (nI 0)) O dL_isSandSo_0 (by decide +kernel) ?_
  refine g_istore_n (L' := [(0, .ref (a 0)), (1, .int (nI 0))]) O dL_isSandSo_1 rfl (by decide) [1, 0] rfl ?_
  refine g_iconst (x := (nI 0)) O dL_isSandSo_2 (by decide +kernel) ?_
  refine g_istore_n (L' := [(0, .ref (a 0)), (1, .int (nI 0)), (2, .int (nI 0))]) O dL_isSandSo_3 rfl (by decide) [1, 2, 0] rfl ?_
  refine g_iconst (x := (nI 0)) O dL_isSandSo_4 (by decide +kernel) ?_
  refine g_istore_n (L' := [(0, .ref (a 0)), (1, .int (nI 0)), (2, .int (nI 0)), (3, .int (nI 0))]) O dL_isSandSo_5 rfl (by decide) [1, 2, 3, 0] rfl ?_
  refine g_iconst (x := (nI 1)) O dL_isSandSo_6 (by decide +kernel) ?_
  refine g_istore (L' := [(0, .ref (a 0)), (1, .int (nI 0)), (2, .int (nI 0)), (3, .int (nI 0)), (4, .int (nI 1))]) O dL_isSandSo_7 (by decide) [1, 2, 3, 4, 0] rfl ?_
  refine g_iconst (x := (nI 0)) O dL_isSandSo_9 (by decide +kernel) ?_
  refine g_istore (L' := [(0, .ref (a 0)), (1, .int (nI 0)), (2, .int (nI 0)), (3, .int (nI 0)), (4, .int (nI 1)), (5, .int (nI 0))]) O dL_isSandSo_10 (by decide) [1, 2, 3, 4, 5, 0] rfl ?_
  have J12 : ∀ (n_ : Nat), ∀ (ky : Nat) (mo : Nat) (J1_ : JS) (hk : ky ≤ 12) (hm : mo = mxN (sv_g (p_s P)) (12 * ky)), 12 - ky < n_ → G X 0 0 12 [(0, .ref (a 0)), (1, .int (nI (rwN (sv_g (p_s P)) ky))), (2, .int (nI (clN (sv_g (p_s P)) ky))), (3, .int (nI mo)), (4, .int (nI 1)), (5, .int (nI ky))] [] (wX D a P J1_) := by
    intro n_
    induction n_ with
    | zero => intro ky mo J1_ hk hm hm_; exact absurd hm_ (Nat.not_lt_zero _)
    | succ n_ ih1 =>
      intro ky mo J1_ hk hm hm_
      have hrw := rwN_le (sv_g (p_s P)) hk
      have hcl := clN_le (sv_g (p_s P)) hk
      have hmx := mxN_le (sv_g (p_s P)) (n := 12 * ky) (by omega)
      refine g_iload O dL_isSandSo_12 5 rfl ?_
      refine g_bipush (x := (nI 12)) O dL_isSandSo_14 (by decide +kernel) ?_
      refine g_icmp_geN (tgt := 136) O (by omega) (by omega) dL_isSandSo_16 (by decide) (fun c_1 => ?_) (fun c_1 => ?_)
      ·
        obtain rfl : ky = 12 := by omega
        have hmx3 := mxN_le (sv_g (p_s P)) (n := 144) (Nat.le_refl _)
        refine g_iconst (x := (nI 0)) O dL_isSandSo_136 (by decide +kernel) ?_
        refine g_istore (L' := [(0, .ref (a 0)), (1, .int (nI (rwN (sv_g (p_s P)) 12))), (2, .int (nI (clN (sv_g (p_s P)) 12))), (3, .int (nI mo)), (4, .int (nI 1)), (5, .int (nI 0))]) O dL_isSandSo_137 (by decide) [1, 2, 3, 4, 5, 0] rfl ?_
        have J139 : ∀ (n_ : Nat), ∀ (cc : Nat) (J3_ : JS) (hc : cc ≤ sv_nc (p_s P)), sv_nc (p_s P) - cc < n_ → G X 0 0 139 [(0, .ref (a 0)), (1, .int (nI (rwN (sv_g (p_s P)) 12))), (2, .int (nI (clN (sv_g (p_s P)) 12))), (3, .int (nI mo)), (4, .int (nI 1)), (5, .int (nI cc))] [] (wX D a P J3_) := by
          intro n_
          induction n_ with
          | zero => intro cc J3_ hc hm_; exact absurd hm_ (Nat.not_lt_zero _)
          | succ n_ ih3 =>
            intro cc J3_ hc hm_
            refine g_iload O dL_isSandSo_139 5 rfl ?_
            refine g_aload_n O dL_isSandSo_141 0 rfl rfl ?_
            refine g_iconst (x := (nI 4)) O dL_isSandSo_142 (by decide +kernel) ?_
            refine g_callW (As := [.int (nI 4)]) (Aw := wX D a P J3_) O (X_count_4 l D z a P J3_ hI.1 hB ) gL_isSandSo_X8_count rfl rfl rfl 1 (by decide +kernel) (by decide) (by decide) rfl rfl rfl rfl rfl (Nat.le_of_ble_eq_true rfl) dL_isSandSo_143 (fun r9 w9 hp => ?_)
            obtain ⟨rfl, J_2, rfl⟩ := hp
            refine g_eq (st' := [.int (nI (sv_nc (p_s P))), .int (nI cc)]) (ws' := wX D a P J_2) rfl rfl rfl ?_
            refine g_icmp_geN (tgt := 191) O (by omega) (by omega) dL_isSandSo_146 (by decide) (fun c_3 => ?_) (fun c_3 => ?_)
            ·
              refine g_iload O dL_isSandSo_191 4 rfl ?_
              refine g_if_eqN (tgt := 272) O (by omega) dL_isSandSo_193 (by decide) (fun c_4 => absurd c_4 (by decide)) (fun c_4 => ?_)
              refine g_iload_n O dL_isSandSo_196 1 rfl rfl ?_
              refine g_aload_n O dL_isSandSo_197 0 rfl rfl ?_
              refine g_iconst (x := (nI 0)) O dL_isSandSo_198 (by decide +kernel) ?_
              refine g_callW (As := [.int (nI 0)]) (Aw := wX D a P J_2) O (X_count_0 l D z a P J_2 hI.1 hB ) gL_isSandSo_X8_count rfl rfl rfl 1 (by decide +kernel) (by decide) (by decide) rfl rfl rfl rfl rfl (Nat.le_of_ble_eq_true rfl) dL_isSandSo_199 (fun r9 w9 hp => ?_)
              obtain ⟨rfl, J_5, rfl⟩ := hp
              refine g_eq (st' := [.int (nI (smN (sv_g (p_s P)) 144)), .int (nI (rwN (sv_g (p_s P)) 12))]) (ws' := wX D a P J_5) rfl rfl rfl ?_
              refine g_icmp_neN (tgt := 272) O (by omega) (by omega) dL_isSandSo_202 (by decide) (fun c_6 => (by exact absurd (rwN_all (sv_g (p_s P))) c_6)) (fun c_6 => ?_)
              refine g_iload_n O dL_isSandSo_205 2 rfl rfl ?_
              refine g_iload_n O dL_isSandSo_206 1 rfl rfl ?_
              refine g_icmp_neN (tgt := 272) O (by omega) (by omega) dL_isSandSo_207 (by decide) (fun c_7 => (by exact absurd (clN_all (sv_g (p_s P))) c_7)) (fun c_7 => ?_)
              refine g_iload_n O dL_isSandSo_210 3 rfl rfl ?_
              refine g_aload_n O dL_isSandSo_211 0 rfl rfl ?_
              refine g_bipush (x := (nI 10)) O dL_isSandSo_212 (by decide +kernel) ?_
              refine g_callW (As := [.int (nI 10)]) (Aw := wX D a P J_5) O (X_count_10 l D z a P J_5 hI.1 hB ) gL_isSandSo_X8_count rfl rfl rfl 1 (by decide +kernel) (by decide) (by decide) rfl rfl rfl rfl rfl (Nat.le_of_ble_eq_true rfl) dL_isSandSo_214 (fun r9 w9 hp => ?_)
              obtain ⟨rfl, J_8, rfl⟩ := hp
              refine g_eq (st' := [.int (nI (mxN (sv_g (p_s P)) 144)), .int (nI mo)]) (ws' := wX D a P J_8) rfl rfl rfl ?_
              refine g_icmp_neN (tgt := 272) O (by omega) (by omega) dL_isSandSo_217 (by decide) (fun c_9 => (by exact absurd hm c_9)) (fun c_9 => ?_)
              refine g_aload_n O dL_isSandSo_220 0 rfl rfl ?_
              refine g_iconst (x := (nI 0)) O dL_isSandSo_221 (by decide +kernel) ?_
              refine g_callW (As := [.int (nI 0)]) (Aw := wX D a P J_8) O (X_count_0 l D z a P J_8 hI.1 hB ) gL_isSandSo_X8_count rfl rfl rfl 1 (by decide +kernel) (by decide) (by decide) rfl rfl rfl rfl rfl (Nat.le_of_ble_eq_true rfl) dL_isSandSo_222 (fun r9 w9 hp => ?_)
              obtain ⟨rfl, J_10, rfl⟩ := hp
              refine g_eq (st' := [.int (nI (smN (sv_g (p_s P)) 144))]) (ws' := wX D a P J_10) rfl rfl rfl ?_
              refine g_aload_n O dL_isSandSo_225 0 rfl rfl ?_
              refine g_iconst (x := (nI 1)) O dL_isSandSo_226 (by decide +kernel) ?_
              refine g_callW (As := [.int (nI 1)]) (Aw := wX D a P J_10) O (X_count_1 l D z a P J_10 hI.1 hB ) gL_isSandSo_X8_count rfl rfl rfl 1 (by decide +kernel) (by decide) (by decide) rfl rfl rfl rfl rfl (Nat.le_of_ble_eq_true rfl) dL_isSandSo_227 (fun r9 w9 hp => ?_)
              obtain ⟨rfl, J_11, rfl⟩ := hp
              refine g_eq (st' := [.int (sv_st (p_s P)), .int (nI (smN (sv_g (p_s P)) 144))]) (ws' := wX D a P J_11) rfl rfl rfl ?_
              refine g_aload_n O dL_isSandSo_230 0 rfl rfl ?_
              refine g_iconst (x := (nI 2)) O dL_isSandSo_231 (by decide +kernel) ?_
              refine g_callW (As := [.int (nI 2)]) (Aw := wX D a P J_11) O (X_count_2 l D z a P J_11 hI.1 hB ) gL_isSandSo_X8_count rfl rfl rfl 1 (by decide +kernel) (by decide) (by decide) rfl rfl rfl rfl rfl (Nat.le_of_ble_eq_true rfl) dL_isSandSo_232 (fun r9 w9 hp => ?_)
              obtain ⟨rfl, J_12, rfl⟩ := hp
              refine g_eq (st' := [.int (sv_sw (p_s P)), .int (sv_st (p_s P)), .int (nI (smN (sv_g (p_s P)) 144))]) (ws' := wX D a P J_12) rfl rfl rfl ?_
              refine g_isub O dL_isSandSo_235 ?_
              refine g_aload_n O dL_isSandSo_236 0 rfl rfl ?_
              refine g_iconst (x := (nI 3)) O dL_isSandSo_237 (by decide +kernel) ?_
              refine g_callW (As := [.int (nI 3)]) (Aw := wX D a P J_12) O (X_count_3 l D z a P J_12 hI.1 hB ) gL_isSandSo_X8_count rfl rfl rfl 1 (by decide +kernel) (by decide) (by decide) rfl rfl rfl rfl rfl (Nat.le_of_ble_eq_true rfl) dL_isSandSo_238 (fun r9 w9 hp => ?_)
              obtain ⟨rfl, J_13, rfl⟩ := hp
              refine g_eq (st' := [.int (sv_fl (p_s P)), .int ((sv_st (p_s P)) - (sv_sw (p_s P))), .int (nI (smN (sv_g (p_s P)) 144))]) (ws' := wX D a P J_13) rfl rfl rfl ?_
              refine g_isub O dL_isSandSo_241 ?_
              refine g_icmp_ne (tgt := 272) O dL_isSandSo_242 (by decide) (fun c_14 => (by exact absurd hI.2.1.2.2 c_14)) (fun c_14 => ?_)
              refine g_aload_n O dL_isSandSo_245 0 rfl rfl ?_
              refine g_iconst (x := (nI 4)) O dL_isSandSo_246 (by decide +kernel) ?_
              refine g_callW (As := [.int (nI 4)]) (Aw := wX D a P J_13) O (X_count_4 l D z a P J_13 hI.1 hB ) gL_isSandSo_X8_count rfl rfl rfl 1 (by decide +kernel) (by decide) (by decide) rfl rfl rfl rfl rfl (Nat.le_of_ble_eq_true rfl) dL_isSandSo_247 (fun r9 w9 hp => ?_)
              obtain ⟨rfl, J_15, rfl⟩ := hp
              refine g_eq (st' := [.int (nI (sv_nc (p_s P)))]) (ws' := wX D a P J_15) rfl rfl rfl ?_
              refine g_iconst (x := (nI 4)) O dL_isSandSo_250 (by decide +kernel) ?_
              refine g_icmp_gtN (tgt := 272) O (by omega) (by omega) dL_isSandSo_251 (by decide) (fun c_16 => (by omega)) (fun c_16 => ?_)
              refine g_aload_n O dL_isSandSo_254 0 rfl rfl ?_
              refine g_aload_n O dL_isSandSo_255 0 rfl rfl ?_
              refine g_iconst (x := (nI 4)) O dL_isSandSo_256 (by decide +kernel) ?_
              refine g_callW (As := [.int (nI 4)]) (Aw := wX D a P J_15) O (X_count_4 l D z a P J_15 hI.1 hB ) gL_isSandSo_X8_count rfl rfl rfl 1 (by decide +kernel) (by decide) (by decide) rfl rfl rfl rfl rfl (Nat.le_of_ble_eq_true rfl) dL_isSandSo_257 (fun r9 w9 hp => ?_)
              obtain ⟨rfl, J_17, rfl⟩ := hp
              refine g_eq (st' := [.int (nI (sv_nc (p_s P))), .ref (a 0)]) (ws' := wX D a P J_17) rfl rfl rfl ?_
              refine g_iconst (x := (nI 1)) O dL_isSandSo_260 (by decide +kernel) ?_
              refine g_eq (st' := [.int (bB true), .int (nI (sv_nc (p_s P))), .ref (a 0)]) (rfl) rfl rfl ?_
              refine g_callW (As := [.int (nI (sv_nc (p_s P))), .int (bB true)]) (Aw := wX D a P J_17) O (X_clampAt_b1 l D z a P (nI (sv_nc (p_s P))) true J_17 hI.1 hB (by rw [rgB_nI (by omega) (by omega)]; simp)) gL_isSandSo_X8_clampAt rfl rfl rfl 2 (by decide +kernel) (by decide) (by decide) rfl rfl rfl rfl rfl (Nat.le_of_ble_eq_true rfl) dL_isSandSo_261 (fun r9 w9 hp => ?_)
              obtain ⟨rfl, J_18, rfl⟩ := hp
              refine g_eq (st' := [.int (-1)]) (ws' := wX D a P J_18) rfl rfl rfl ?_
              refine g_iconst (x := (-1)) O dL_isSandSo_264 (by decide +kernel) ?_
              refine g_icmp_ne (tgt := 272) O dL_isSandSo_265 (by decide) (fun c_19 => (by exact absurd rfl c_19)) (fun c_19 => ?_)
              refine g_iconst (x := (nI 1)) O dL_isSandSo_268 (by decide +kernel) ?_
              refine g_goto (tgt := 273) O dL_isSandSo_269 (by decide) ?_
              refine g_eq (st' := [.int (bB true)]) rfl rfl rfl ?_
              exact E 273 _ true _ dL_isSandSo_273 ⟨rfl, _, rfl⟩
            ·
              refine g_iload O dL_isSandSo_149 4 rfl ?_
              refine g_if_eqN (tgt := 182) O (by omega) dL_isSandSo_151 (by decide) (fun c_20 => absurd c_20 (by decide)) (fun c_20 => ?_)
              refine g_aload_n O dL_isSandSo_154 0 rfl rfl ?_
              refine g_aload_n O dL_isSandSo_155 0 rfl rfl ?_
              refine g_iload O dL_isSandSo_156 5 rfl ?_
              refine g_iconst (x := (nI 0)) O dL_isSandSo_158 (by decide +kernel) ?_
              refine g_eq (st' := [.int (bB false), .int (nI cc), .ref (a 0), .ref (a 0)]) (rfl) rfl rfl ?_
              refine g_callW (As := [.int (nI cc), .int (bB false)]) (Aw := wX D a P J_2) O (X_clampAt_ok l D z a P cc false J_2 hI.1 hB (by first | omega | assumption)) gL_isSandSo_X8_clampAt rfl rfl rfl 2 (by decide +kernel) (by decide) (by decide) rfl rfl rfl rfl rfl (Nat.le_of_ble_eq_true rfl) dL_isSandSo_159 (fun r9 w9 hp => ?_)
              obtain ⟨rfl, J_21, rfl⟩ := hp
              refine g_eq (st' := [.int (nI (if false = true then sv_cr (p_s P) cc else sv_cc (p_s P) cc)), .ref (a 0)]) (ws' := wX D a P J_21) rfl rfl rfl ?_
              refine g_eq (st' := [.int (nI (sv_cc (p_s P) cc)), .ref (a 0)]) (rfl) rfl rfl ?_
              refine g_aload_n O dL_isSandSo_162 0 rfl rfl ?_
              refine g_iload O dL_isSandSo_163 5 rfl ?_
              refine g_iconst (x := (nI 1)) O dL_isSandSo_165 (by decide +kernel) ?_
              refine g_eq (st' := [.int (bB true), .int (nI cc), .ref (a 0), .int (nI (sv_cc (p_s P) cc)), .ref (a 0)]) (rfl) rfl rfl ?_
              refine g_callW (As := [.int (nI cc), .int (bB true)]) (Aw := wX D a P J_21) O (X_clampAt_ok l D z a P cc true J_21 hI.1 hB (by first | omega | assumption)) gL_isSandSo_X8_clampAt rfl rfl rfl 2 (by decide +kernel) (by decide) (by decide) rfl rfl rfl rfl rfl (Nat.le_of_ble_eq_true rfl) dL_isSandSo_166 (fun r9 w9 hp => ?_)
              obtain ⟨rfl, J_22, rfl⟩ := hp
              refine g_eq (st' := [.int (nI (if true = true then sv_cr (p_s P) cc else sv_cc (p_s P) cc)), .int (nI (sv_cc (p_s P) cc)), .ref (a 0)]) (ws' := wX D a P J_22) rfl rfl rfl ?_
              refine g_eq (st' := [.int (nI (sv_cr (p_s P) cc)), .int (nI (sv_cc (p_s P) cc)), .ref (a 0)]) (rfl) rfl rfl ?_
              refine g_iconst (x := (nI 3)) O dL_isSandSo_169 (by decide +kernel) ?_
              refine g_callW (As := [.int (nI (sv_cc (p_s P) cc)), .int (nI (sv_cr (p_s P) cc)), .int (nI 3)]) (Aw := wX D a P J_22) O (X_place_3 l D z a P (sv_cc (p_s P) cc) (sv_cr (p_s P) cc) J_22 hI.1 hB (by have := hok.2.1 cc (by omega); omega) (by have := hok.2.1 cc (by omega); omega)) gL_isSandSo_X8_place rfl rfl rfl 3 (by decide +kernel) (by decide) (by decide) rfl rfl rfl rfl rfl (Nat.le_of_ble_eq_true rfl) dL_isSandSo_170 (fun r9 w9 hp => ?_)
              obtain ⟨rfl, J_23, rfl⟩ := hp
              refine g_eq (st' := [.int (laM (orM (fdB (fun j => sv_cc (p_s P) j == (sv_cc (p_s P) cc) && sv_cr (p_s P) j == (sv_cr (p_s P) cc)) (sv_nc (p_s P)))))]) (ws' := wX D a P J_23) rfl rfl rfl ?_
              refine g_eq (st' := [.int (nI cc)]) (by rw [cl_self hI.2.1 (by omega), laM_n (by omega)]) rfl rfl ?_
              refine g_iload O dL_isSandSo_173 5 rfl ?_
              refine g_icmp_neN (tgt := 182) O (by omega) (by omega) dL_isSandSo_175 (by decide) (fun c_24 => (by exact absurd rfl c_24)) (fun c_24 => ?_)
              refine g_iconst (x := (nI 1)) O dL_isSandSo_178 (by decide +kernel) ?_
              refine g_goto (tgt := 183) O dL_isSandSo_179 (by decide) ?_
              refine g_istore (L' := [(0, .ref (a 0)), (1, .int (nI (rwN (sv_g (p_s P)) 12))), (2, .int (nI (clN (sv_g (p_s P)) 12))), (3, .int (nI mo)), (4, .int (nI 1)), (5, .int (nI cc))]) O dL_isSandSo_183 (by decide) [1, 2, 3, 4, 0, 5] rfl ?_
              refine g_iincN (L' := [(0, .ref (a 0)), (1, .int (nI (rwN (sv_g (p_s P)) 12))), (2, .int (nI (clN (sv_g (p_s P)) 12))), (3, .int (nI mo)), (4, .int (nI 1)), (5, .int (nI (cc + 1)))]) O dL_isSandSo_185 5 rfl (by decide) [1, 2, 3, 4, 5, 0] rfl ?_
              refine g_goto (tgt := 139) O dL_isSandSo_188 (by decide) ?_
              exact ih3 (cc + 1) J_23 (by omega) (by omega)
        exact J139 _ 0 J1_ (by omega) (Nat.lt_succ_self _)
      ·
        refine g_iconst (x := (nI 0)) O dL_isSandSo_19 (by decide +kernel) ?_
        refine g_istore (L' := [(0, .ref (a 0)), (1, .int (nI (rwN (sv_g (p_s P)) ky))), (2, .int (nI (clN (sv_g (p_s P)) ky))), (3, .int (nI mo)), (4, .int (nI 1)), (5, .int (nI ky)), (6, .int (nI 0))]) O dL_isSandSo_20 (by decide) [1, 2, 3, 4, 5, 6, 0] rfl ?_
        refine g_iconst (x := (nI 0)) O dL_isSandSo_22 (by decide +kernel) ?_
        refine g_istore (L' := [(0, .ref (a 0)), (1, .int (nI (rwN (sv_g (p_s P)) ky))), (2, .int (nI (clN (sv_g (p_s P)) ky))), (3, .int (nI mo)), (4, .int (nI 1)), (5, .int (nI ky)), (6, .int (nI 0)), (7, .int (nI 0))]) O dL_isSandSo_23 (by decide) [1, 2, 3, 4, 5, 6, 7, 0] rfl ?_
        have J25 : ∀ (n_ : Nat), ∀ (kx : Nat) (mp : Nat) (J2_ : JS) (hx : kx ≤ 12) (hm2 : mp = mxN (sv_g (p_s P)) (12 * ky + kx)), 12 - kx < n_ → G X 0 0 25 [(0, .ref (a 0)), (1, .int (nI (rwN (sv_g (p_s P)) ky))), (2, .int (nI (clN (sv_g (p_s P)) ky))), (3, .int (nI mp)), (4, .int (nI 1)), (5, .int (nI ky)), (6, .int (nI (smN (fun c_ => sv_g (p_s P) (ky * 12 + c_)) kx))), (7, .int (nI kx))] [] (wX D a P J2_) := by
          intro n_
          induction n_ with
          | zero => intro kx mp J2_ hx hm2 hm_; exact absurd hm_ (Nat.not_lt_zero _)
          | succ n_ ih2 =>
            intro kx mp J2_ hx hm2 hm_
            have hmx2 := mxN_le (sv_g (p_s P)) (n := 12 * ky + kx) (by omega)
            have hrow := row_le (sv_g (p_s P)) (k := ky) (by omega) hx
            refine g_iload O dL_isSandSo_25 7 rfl ?_
            refine g_bipush (x := (nI 12)) O dL_isSandSo_27 (by decide +kernel) ?_
            refine g_icmp_geN (tgt := 86) O (by omega) (by omega) dL_isSandSo_29 (by decide) (fun c_25 => ?_) (fun c_25 => ?_)
            ·
              obtain rfl : kx = 12 := by omega
              refine g_iload_n O dL_isSandSo_86 1 rfl rfl ?_
              refine g_aload_n O dL_isSandSo_87 0 rfl rfl ?_
              refine g_iconst (x := (nI 1)) O dL_isSandSo_88 (by decide +kernel) ?_
              refine g_iload O dL_isSandSo_89 5 rfl ?_
              refine g_eq (st' := [.int (nI ky), .int (bB true), .ref (a 0), .int (nI (rwN (sv_g (p_s P)) ky))]) (rfl) rfl rfl ?_
              refine g_callW (As := [.int (bB true), .int (nI ky)]) (Aw := wX D a P J2_) O (X_sand_row l D z a P ky J2_ hI.1 hB (by first | omega | assumption)) gL_isSandSo_X8_sand rfl rfl rfl 2 (by decide +kernel) (by decide) (by decide) rfl rfl rfl rfl rfl (Nat.le_of_ble_eq_true rfl) dL_isSandSo_91 (fun r9 w9 hp => ?_)
              obtain ⟨rfl, J_26, rfl⟩ := hp
              refine g_eq (st' := [.int (nI (smN (fun k => sv_g (p_s P) (ky * 12 + k)) 12)), .int (nI (rwN (sv_g (p_s P)) ky))]) (ws' := wX D a P J_26) rfl rfl rfl ?_
              refine g_iaddN O dL_isSandSo_94 ?_
              refine g_istore_n (L' := [(0, .ref (a 0)), (1, .int (nI ((rwN (sv_g (p_s P)) ky) + (smN (fun k => sv_g (p_s P) (ky * 12 + k)) 12)))), (2, .int (nI (clN (sv_g (p_s P)) ky))), (3, .int (nI mp)), (4, .int (nI 1)), (5, .int (nI ky)), (6, .int (nI (smN (fun c_ => sv_g (p_s P) (ky * 12 + c_)) 12))), (7, .int (nI 12))]) O dL_isSandSo_95 rfl (by decide) [1, 0, 2, 3, 4, 5, 6, 7] rfl ?_
              refine g_iload_n O dL_isSandSo_96 2 rfl rfl ?_
              refine g_aload_n O dL_isSandSo_97 0 rfl rfl ?_
              refine g_iconst (x := (nI 0)) O dL_isSandSo_98 (by decide +kernel) ?_
              refine g_iload O dL_isSandSo_99 5 rfl ?_
              refine g_eq (st' := [.int (nI ky), .int (bB false), .ref (a 0), .int (nI (clN (sv_g (p_s P)) ky))]) (rfl) rfl rfl ?_
              refine g_callW (As := [.int (bB false), .int (nI ky)]) (Aw := wX D a P J_26) O (X_sand_col l D z a P ky J_26 hI.1 hB (by first | omega | assumption)) gL_isSandSo_X8_sand rfl rfl rfl 2 (by decide +kernel) (by decide) (by decide) rfl rfl rfl rfl rfl (Nat.le_of_ble_eq_true rfl) dL_isSandSo_101 (fun r9 w9 hp => ?_)
              obtain ⟨rfl, J_27, rfl⟩ := hp
              refine g_eq (st' := [.int (nI (smN (fun k => sv_g (p_s P) (k * 12 + ky)) 12)), .int (nI (clN (sv_g (p_s P)) ky))]) (ws' := wX D a P J_27) rfl rfl rfl ?_
              refine g_iaddN O dL_isSandSo_104 ?_
              refine g_istore_n (L' := [(0, .ref (a 0)), (1, .int (nI ((rwN (sv_g (p_s P)) ky) + (smN (fun k => sv_g (p_s P) (ky * 12 + k)) 12)))), (2, .int (nI ((clN (sv_g (p_s P)) ky) + (smN (fun k => sv_g (p_s P) (k * 12 + ky)) 12)))), (3, .int (nI mp)), (4, .int (nI 1)), (5, .int (nI ky)), (6, .int (nI (smN (fun c_ => sv_g (p_s P) (ky * 12 + c_)) 12))), (7, .int (nI 12))]) O dL_isSandSo_105 rfl (by decide) [1, 2, 0, 3, 4, 5, 6, 7] rfl ?_
              refine g_iload O dL_isSandSo_106 4 rfl ?_
              refine g_if_eqN (tgt := 127) O (by omega) dL_isSandSo_108 (by decide) (fun c_28 => absurd c_28 (by decide)) (fun c_28 => ?_)
              refine g_iload O dL_isSandSo_111 6 rfl ?_
              refine g_aload_n O dL_isSandSo_113 0 rfl rfl ?_
              refine g_iconst (x := (nI 1)) O dL_isSandSo_114 (by decide +kernel) ?_
              refine g_iload O dL_isSandSo_115 5 rfl ?_
              refine g_eq (st' := [.int (nI ky), .int (bB true), .ref (a 0), .int (nI (smN (fun c_ => sv_g (p_s P) (ky * 12 + c_)) 12))]) (rfl) rfl rfl ?_
              refine g_callW (As := [.int (bB true), .int (nI ky)]) (Aw := wX D a P J_27) O (X_sand_row l D z a P ky J_27 hI.1 hB (by first | omega | assumption)) gL_isSandSo_X8_sand rfl rfl rfl 2 (by decide +kernel) (by decide) (by decide) rfl rfl rfl rfl rfl (Nat.le_of_ble_eq_true rfl) dL_isSandSo_117 (fun r9 w9 hp => ?_)
              obtain ⟨rfl, J_29, rfl⟩ := hp
              refine g_eq (st' := [.int (nI (smN (fun k => sv_g (p_s P) (ky * 12 + k)) 12)), .int (nI (smN (fun c_ => sv_g (p_s P) (ky * 12 + c_)) 12))]) (ws' := wX D a P J_29) rfl rfl rfl ?_
              refine g_icmp_neN (tgt := 127) O (by omega) (by omega) dL_isSandSo_120 (by decide) (fun c_30 => (by exact absurd rfl c_30)) (fun c_30 => ?_)
              refine g_iconst (x := (nI 1)) O dL_isSandSo_123 (by decide +kernel) ?_
              refine g_goto (tgt := 128) O dL_isSandSo_124 (by decide) ?_
              refine g_istore (L' := [(0, .ref (a 0)), (1, .int (nI ((rwN (sv_g (p_s P)) ky) + (smN (fun k => sv_g (p_s P) (ky * 12 + k)) 12)))), (2, .int (nI ((clN (sv_g (p_s P)) ky) + (smN (fun k => sv_g (p_s P) (k * 12 + ky)) 12)))), (3, .int (nI mp)), (4, .int (nI 1)), (5, .int (nI ky)), (6, .int (nI (smN (fun c_ => sv_g (p_s P) (ky * 12 + c_)) 12))), (7, .int (nI 12))]) O dL_isSandSo_128 (by decide) [1, 2, 3, 4, 0, 5, 6, 7] rfl ?_
              refine g_iincN (L' := [(0, .ref (a 0)), (1, .int (nI ((rwN (sv_g (p_s P)) ky) + (smN (fun k => sv_g (p_s P) (ky * 12 + k)) 12)))), (2, .int (nI ((clN (sv_g (p_s P)) ky) + (smN (fun k => sv_g (p_s P) (k * 12 + ky)) 12)))), (3, .int (nI mp)), (4, .int (nI 1)), (5, .int (nI (ky + 1))), (6, .int (nI (smN (fun c_ => sv_g (p_s P) (ky * 12 + c_)) 12))), (7, .int (nI 12))]) O dL_isSandSo_130 5 rfl (by decide) [1, 2, 3, 4, 5, 0, 6, 7] rfl ?_
              refine g_goto (tgt := 12) O dL_isSandSo_133 (by decide) ?_
              refine g_locals (L' := [(0, .ref (a 0)), (1, .int (nI ((rwN (sv_g (p_s P)) ky) + (smN (fun k => sv_g (p_s P) (ky * 12 + k)) 12)))), (2, .int (nI ((clN (sv_g (p_s P)) ky) + (smN (fun k => sv_g (p_s P) (k * 12 + ky)) 12)))), (3, .int (nI mp)), (4, .int (nI 1)), (5, .int (nI (ky + 1)))]) [0, 1, 2, 3, 4, 5] rfl ?_
              exact ih1 (ky + 1) mp J_29 (by omega) (by rw [show 12 * (ky + 1) = 12 * ky + 12 by omega]; exact hm2) (by omega)
            ·
              have hge := smN_ge (g := sv_g (p_s P)) (k := ky * 12 + kx) (n := 144) (by omega)
              have hgk : sv_g (p_s P) (12 * ky + kx) = sv_g (p_s P) (ky * 12 + kx) := by rw [Nat.mul_comm]
              refine g_aload_n O dL_isSandSo_32 0 rfl rfl ?_
              refine g_iload O dL_isSandSo_33 7 rfl ?_
              refine g_iload O dL_isSandSo_35 5 rfl ?_
              refine g_iconst (x := (nI 0)) O dL_isSandSo_37 (by decide +kernel) ?_
              refine g_callW (As := [.int (nI kx), .int (nI ky), .int (nI 0)]) (Aw := wX D a P J2_) O (X_place_0 l D z a P kx ky J2_ hI.1 hB (by first | omega | assumption) (by first | omega | assumption)) gL_isSandSo_X8_place rfl rfl rfl 3 (by decide +kernel) (by decide) (by decide) rfl rfl rfl rfl rfl (Nat.le_of_ble_eq_true rfl) dL_isSandSo_38 (fun r9 w9 hp => ?_)
              obtain ⟨rfl, J_31, rfl⟩ := hp
              refine g_eq (st' := [.int (nI (sv_g (p_s P) (ky * 12 + kx)))]) (ws' := wX D a P J_31) rfl rfl rfl ?_
              refine g_istore (L' := [(0, .ref (a 0)), (1, .int (nI (rwN (sv_g (p_s P)) ky))), (2, .int (nI (clN (sv_g (p_s P)) ky))), (3, .int (nI mp)), (4, .int (nI 1)), (5, .int (nI ky)), (6, .int (nI (smN (fun c_ => sv_g (p_s P) (ky * 12 + c_)) kx))), (7, .int (nI kx)), (8, .int (nI (sv_g (p_s P) (ky * 12 + kx))))]) O dL_isSandSo_41 (by decide) [1, 2, 3, 4, 5, 6, 7, 8, 0] rfl ?_
              refine g_iload O dL_isSandSo_43 6 rfl ?_
              refine g_iload O dL_isSandSo_45 8 rfl ?_
              refine g_iaddN O dL_isSandSo_47 ?_
              refine g_istore (L' := [(0, .ref (a 0)), (1, .int (nI (rwN (sv_g (p_s P)) ky))), (2, .int (nI (clN (sv_g (p_s P)) ky))), (3, .int (nI mp)), (4, .int (nI 1)), (5, .int (nI ky)), (6, .int (nI ((smN (fun c_ => sv_g (p_s P) (ky * 12 + c_)) kx) + (sv_g (p_s P) (ky * 12 + kx))))), (7, .int (nI kx)), (8, .int (nI (sv_g (p_s P) (ky * 12 + kx))))]) O dL_isSandSo_48 (by decide) [1, 2, 3, 4, 5, 6, 0, 7, 8] rfl ?_
              refine g_iload O dL_isSandSo_50 8 rfl ?_
              refine g_iload_n O dL_isSandSo_52 3 rfl rfl ?_
              refine g_icmp_leN (tgt := 61) O (by omega) (by omega) dL_isSandSo_53 (by decide) (fun c_32 => ?_) (fun c_32 => ?_)
              ·
                refine g_iload_n O dL_isSandSo_61 3 rfl rfl ?_
                refine g_istore_n (L' := [(0, .ref (a 0)), (1, .int (nI (rwN (sv_g (p_s P)) ky))), (2, .int (nI (clN (sv_g (p_s P)) ky))), (3, .int (nI mp)), (4, .int (nI 1)), (5, .int (nI ky)), (6, .int (nI ((smN (fun c_ => sv_g (p_s P) (ky * 12 + c_)) kx) + (sv_g (p_s P) (ky * 12 + kx))))), (7, .int (nI kx)), (8, .int (nI (sv_g (p_s P) (ky * 12 + kx))))]) O dL_isSandSo_62 rfl (by decide) [1, 2, 3, 0, 4, 5, 6, 7, 8] rfl ?_
                refine g_iload O dL_isSandSo_63 4 rfl ?_
                refine g_if_eqN (tgt := 77) O (by omega) dL_isSandSo_65 (by decide) (fun c_33 => absurd c_33 (by decide)) (fun c_33 => ?_)
                refine g_iload O dL_isSandSo_68 8 rfl ?_
                refine g_if_ltN (tgt := 77) O (by omega) dL_isSandSo_70 (by decide) ?_
                refine g_iconst (x := (nI 1)) O dL_isSandSo_73 (by decide +kernel) ?_
                refine g_goto (tgt := 78) O dL_isSandSo_74 (by decide) ?_
                refine g_istore (L' := [(0, .ref (a 0)), (1, .int (nI (rwN (sv_g (p_s P)) ky))), (2, .int (nI (clN (sv_g (p_s P)) ky))), (3, .int (nI mp)), (4, .int (nI 1)), (5, .int (nI ky)), (6, .int (nI ((smN (fun c_ => sv_g (p_s P) (ky * 12 + c_)) kx) + (sv_g (p_s P) (ky * 12 + kx))))), (7, .int (nI kx)), (8, .int (nI (sv_g (p_s P) (ky * 12 + kx))))]) O dL_isSandSo_78 (by decide) [1, 2, 3, 4, 0, 5, 6, 7, 8] rfl ?_
                refine g_iincN (L' := [(0, .ref (a 0)), (1, .int (nI (rwN (sv_g (p_s P)) ky))), (2, .int (nI (clN (sv_g (p_s P)) ky))), (3, .int (nI mp)), (4, .int (nI 1)), (5, .int (nI ky)), (6, .int (nI ((smN (fun c_ => sv_g (p_s P) (ky * 12 + c_)) kx) + (sv_g (p_s P) (ky * 12 + kx))))), (7, .int (nI (kx + 1))), (8, .int (nI (sv_g (p_s P) (ky * 12 + kx))))]) O dL_isSandSo_80 7 rfl (by decide) [1, 2, 3, 4, 5, 6, 7, 0, 8] rfl ?_
                refine g_goto (tgt := 25) O dL_isSandSo_83 (by decide) ?_
                refine g_locals (L' := [(0, .ref (a 0)), (1, .int (nI (rwN (sv_g (p_s P)) ky))), (2, .int (nI (clN (sv_g (p_s P)) ky))), (3, .int (nI mp)), (4, .int (nI 1)), (5, .int (nI ky)), (6, .int (nI ((smN (fun c_ => sv_g (p_s P) (ky * 12 + c_)) kx) + (sv_g (p_s P) (ky * 12 + kx))))), (7, .int (nI (kx + 1)))]) [0, 1, 2, 3, 4, 5, 6, 7] rfl ?_
                exact ih2 (kx + 1) mp J_31 (by omega) (by have e_ := mxN_s (sv_g (p_s P)) (12 * ky + kx); rw [show 12 * ky + (kx + 1) = 12 * ky + kx + 1 by omega]; omega) (by omega)
              ·
                refine g_iload O dL_isSandSo_56 8 rfl ?_
                refine g_goto (tgt := 62) O dL_isSandSo_58 (by decide) ?_
                refine g_istore_n (L' := [(0, .ref (a 0)), (1, .int (nI (rwN (sv_g (p_s P)) ky))), (2, .int (nI (clN (sv_g (p_s P)) ky))), (3, .int (nI (sv_g (p_s P) (ky * 12 + kx)))), (4, .int (nI 1)), (5, .int (nI ky)), (6, .int (nI ((smN (fun c_ => sv_g (p_s P) (ky * 12 + c_)) kx) + (sv_g (p_s P) (ky * 12 + kx))))), (7, .int (nI kx)), (8, .int (nI (sv_g (p_s P) (ky * 12 + kx))))]) O dL_isSandSo_62 rfl (by decide) [1, 2, 3, 0, 4, 5, 6, 7, 8] rfl ?_
                refine g_iload O dL_isSandSo_63 4 rfl ?_
                refine g_if_eqN (tgt := 77) O (by omega) dL_isSandSo_65 (by decide) (fun c_35 => absurd c_35 (by decide)) (fun c_35 => ?_)
                refine g_iload O dL_isSandSo_68 8 rfl ?_
                refine g_if_ltN (tgt := 77) O (by omega) dL_isSandSo_70 (by decide) ?_
                refine g_iconst (x := (nI 1)) O dL_isSandSo_73 (by decide +kernel) ?_
                refine g_goto (tgt := 78) O dL_isSandSo_74 (by decide) ?_
                refine g_istore (L' := [(0, .ref (a 0)), (1, .int (nI (rwN (sv_g (p_s P)) ky))), (2, .int (nI (clN (sv_g (p_s P)) ky))), (3, .int (nI (sv_g (p_s P) (ky * 12 + kx)))), (4, .int (nI 1)), (5, .int (nI ky)), (6, .int (nI ((smN (fun c_ => sv_g (p_s P) (ky * 12 + c_)) kx) + (sv_g (p_s P) (ky * 12 + kx))))), (7, .int (nI kx)), (8, .int (nI (sv_g (p_s P) (ky * 12 + kx))))]) O dL_isSandSo_78 (by decide) [1, 2, 3, 4, 0, 5, 6, 7, 8] rfl ?_
                refine g_iincN (L' := [(0, .ref (a 0)), (1, .int (nI (rwN (sv_g (p_s P)) ky))), (2, .int (nI (clN (sv_g (p_s P)) ky))), (3, .int (nI (sv_g (p_s P) (ky * 12 + kx)))), (4, .int (nI 1)), (5, .int (nI ky)), (6, .int (nI ((smN (fun c_ => sv_g (p_s P) (ky * 12 + c_)) kx) + (sv_g (p_s P) (ky * 12 + kx))))), (7, .int (nI (kx + 1))), (8, .int (nI (sv_g (p_s P) (ky * 12 + kx))))]) O dL_isSandSo_80 7 rfl (by decide) [1, 2, 3, 4, 5, 6, 7, 0, 8] rfl ?_
                refine g_goto (tgt := 25) O dL_isSandSo_83 (by decide) ?_
                refine g_locals (L' := [(0, .ref (a 0)), (1, .int (nI (rwN (sv_g (p_s P)) ky))), (2, .int (nI (clN (sv_g (p_s P)) ky))), (3, .int (nI (sv_g (p_s P) (ky * 12 + kx)))), (4, .int (nI 1)), (5, .int (nI ky)), (6, .int (nI ((smN (fun c_ => sv_g (p_s P) (ky * 12 + c_)) kx) + (sv_g (p_s P) (ky * 12 + kx))))), (7, .int (nI (kx + 1)))]) [0, 1, 2, 3, 4, 5, 6, 7] rfl ?_
                exact ih2 (kx + 1) (sv_g (p_s P) (ky * 12 + kx)) J_31 (by omega) (by have e_ := mxN_s (sv_g (p_s P)) (12 * ky + kx); rw [show 12 * ky + (kx + 1) = 12 * ky + kx + 1 by omega]; omega) (by omega)
        exact J25 _ 0 mo J1_ (by omega) (hm) (Nat.lt_succ_self _)
  exact J12 _ 0 0 J (by omega) (rfl) (Nat.lt_succ_self _)
