theorem hiX9_stroke_X9 : ∀ w ∈ wsX90, w ∈ wsX9_stroke := by intro w h; simp only [wsX9_stroke, List.mem_append, List.mem_cons, h, or_true, true_or]
set_option maxHeartbeats 2000000 in
set_option maxRecDepth 100000 in
/-- one stroke -/
theorem kX9_stroke (l : Launch) (D : va_G) (z : Nat × Nat × Nat) (u0 : Nat) (u1 : Nat) (u2 : Nat) (u3 : Nat) (u4 : Nat) (u5 : Nat) (u6 : Nat) (u7 : Nat) (u8 : Nat) (u9 : Nat) (u10 : Nat) (u11 : Nat) (kn : Nat) (ik : Bool) (ty : Nat) (ta : Nat) (iw : Bool) (M : Nat → Int32) (Mo : Nat → Int32) (s : SV) (w : Nat) (hw : w < 48) (hM : RM M s) (hg : ∀ p, p < 144 → sv_g s p < 1073741824) : CM l yX9_stroke wsX9_stroke ({ frames := 3, cells := 0, slots := 0, locals := 71 } : Room) D z [.ref u0, .int (nI w)] [(u0, .inr (9, [.ref u1, .ref u2, .ref u3, .ref u4, .ref u5, .ref u6, .int (nI kn), .ref u7, .int (bB ik), .ref u8, .int (nI ty), .ref u9, .int (nI ta), .int (bB iw), .ref u10, .ref u11])), (u4, .inl (tyI D, 6912, .inl SWT)), (u5, .inl (tyI D, 208, .inl M)), (u9, .inl (tyI D, 144, .inl Mo))] (fun r_ w_ => ∃ (M9 : Nat → Int32), ∃ (Mo9 : Nat → Int32), (RM M9 (mkS (onG (SW w) (sv_se s) (tgW w) (sv_g s) (sv_fl s)) (sv_cc s) (sv_cr s) (sv_nc s) (sv_se s) (sv_fs s) (sv_fa s) (sv_fk s) (sv_ps s) (sv_la s) (sv_st s) (sv_sw s) (onL (SW w) (sv_se s) (tgW w) (sv_g s) (sv_fl s)) (sv_sk s + nI 1) (sv_mu s))) ∧ r_ = none ∧ w_ = [(u0, .inr (9, [.ref u1, .ref u2, .ref u3, .ref u4, .ref u5, .ref u6, .int (nI kn), .ref u7, .int (bB ik), .ref u8, .int (nI ty), .ref u9, .int (nI ta), .int (bB iw), .ref u10, .ref u11])), (u4, .inl (tyI D, 6912, .inl SWT)), (u5, .inl (tyI D, 208, .inl M9)), (u9, .inl (tyI D, 144, .inl Mo9))]) 0 0 := by
  refine CM_void (own := RX9) (cc := cX9_stroke) (maxL := 6) (L0 := [(0, .ref u0), (1, .int (nI w))]) (by decide) rfl rfl (Nat.le_of_ble_eq_true rfl) rfl (fun X O E => ?_)
  refine g_iconst (x := (nI 0)) O dX9_stroke_0 (by decide +kernel) ?_
  refine g_istore_n (L' := [(0, .ref u0), (1, .int (nI w)), (2, .int (nI 0))]) O dX9_stroke_1 rfl (by decide) [1, 2, 0] rfl ?_
  have J2 : ∀ (n_ : Nat), ∀ (i_ : Nat) (Z_ : Nat → Int32) (hi_ : i_ ≤ 144) (hF : ∀ j, j < i_ → Z_ j = 0), 144 - i_ < n_ → G X 0 0 2 [(0, .ref u0), (1, .int (nI w)), (2, .int (nI i_))] [] [(u0, .inr (9, [.ref u1, .ref u2, .ref u3, .ref u4, .ref u5, .ref u6, .int (nI kn), .ref u7, .int (bB ik), .ref u8, .int (nI ty), .ref u9, .int (nI ta), .int (bB iw), .ref u10, .ref u11])), (u4, .inl (tyI D, 6912, .inl SWT)), (u5, .inl (tyI D, 208, .inl M)), (u9, .inl (tyI D, 144, .inl Z_))] := by
    intro n_
    induction n_ with
    | zero => intro i_ Z_ hi_ hF hm_; exact absurd hm_ (Nat.not_lt_zero _)
    | succ n_ ih_ =>
      intro i_ Z_ hi_ hF hm_
      refine g_iload_n O dX9_stroke_2 2 rfl rfl ?_
      refine g_sipush (x := (nI 144)) O dX9_stroke_3 (by decide +kernel) ?_
      refine g_icmp_geN (tgt := 22) O (by omega) (by omega) dX9_stroke_6 (by decide) (fun c_1 => ?_) (fun c_1 => ?_)
      ·
        refine g_arr (f' := fun _ => 0) (ws' := [(u0, .inr (9, [.ref u1, .ref u2, .ref u3, .ref u4, .ref u5, .ref u6, .int (nI kn), .ref u7, .int (bB ik), .ref u8, .int (nI ty), .ref u9, .int (nI ta), .int (bB iw), .ref u10, .ref u11])), (u4, .inl (tyI D, 6912, .inl SWT)), (u5, .inl (tyI D, 208, .inl M)), (u9, .inl (tyI D, 144, .inl (fun _ => 0)))]) 3 rfl (fun j hj => hF j (by omega)) rfl ?_
        refine g_iconst (x := (nI 0)) O dX9_stroke_22 (by decide +kernel) ?_
        refine g_istore_n (L' := [(0, .ref u0), (1, .int (nI w)), (2, .int (nI 0))]) O dX9_stroke_23 rfl (by decide) [1, 2, 0] rfl ?_
        have J24 : ∀ (n_ : Nat), ∀ (i_ : Nat) (F_ : Nat → Int32) (G_ : Nat → Int32) (f_ : Int32) (hi_ : i_ ≤ 144) (hF : RM F_ (s_fl s f_)) (hf : f_ = (soF (SW w) (sv_se s) (tgW w) (sv_g s) (sv_fl s) i_).2.2) (hG : ∀ j, j < 144 → G_ j = moF (SW w) (sv_se s) (tgW w) (sv_g s) (sv_fl s) i_ j), 144 - i_ < n_ → G X 0 0 24 [(0, .ref u0), (1, .int (nI w)), (2, .int (nI i_))] [] [(u0, .inr (9, [.ref u1, .ref u2, .ref u3, .ref u4, .ref u5, .ref u6, .int (nI kn), .ref u7, .int (bB ik), .ref u8, .int (nI ty), .ref u9, .int (nI ta), .int (bB iw), .ref u10, .ref u11])), (u4, .inl (tyI D, 6912, .inl SWT)), (u5, .inl (tyI D, 208, .inl F_)), (u9, .inl (tyI D, 144, .inl G_))] := by
          intro n_
          induction n_ with
          | zero => intro i_ F_ G_ f_ hi_ hF hf hG hm_; exact absurd hm_ (Nat.not_lt_zero _)
          | succ n_ ih_ =>
            intro i_ F_ G_ f_ hi_ hF hf hG hm_
            refine g_iload_n O dX9_stroke_24 2 rfl rfl ?_
            refine g_sipush (x := (nI 144)) O dX9_stroke_25 (by decide +kernel) ?_
            refine g_icmp_geN (tgt := 165) O (by omega) (by omega) dX9_stroke_28 (by decide) (fun c_2 => ?_) (fun c_2 => ?_)
            ·
              obtain rfl : i_ = 144 := by omega
              have hf2 : f_ = (onL (SW w) (sv_se s) (tgW w) (sv_g s) (sv_fl s)) := hf
              subst hf2
              clear hf
              refine g_iconst (x := (nI 0)) O dX9_stroke_165 (by decide +kernel) ?_
              refine g_istore_n (L' := [(0, .ref u0), (1, .int (nI w)), (2, .int (nI 0))]) O dX9_stroke_166 rfl (by decide) [1, 2, 0] rfl ?_
              have J167 : ∀ (n_ : Nat), ∀ (j_ : Nat) (H_ : Nat → Int32) (hj_ : j_ ≤ 144) (hH : ∀ j, H_ j = if j < j_ then F_ j + G_ j else F_ j), 144 - j_ < n_ → G X 0 0 167 [(0, .ref u0), (1, .int (nI w)), (2, .int (nI j_))] [] [(u0, .inr (9, [.ref u1, .ref u2, .ref u3, .ref u4, .ref u5, .ref u6, .int (nI kn), .ref u7, .int (bB ik), .ref u8, .int (nI ty), .ref u9, .int (nI ta), .int (bB iw), .ref u10, .ref u11])), (u4, .inl (tyI D, 6912, .inl SWT)), (u5, .inl (tyI D, 208, .inl H_)), (u9, .inl (tyI D, 144, .inl G_))] := by
                intro n_
                induction n_ with
                | zero => intro j_ H_ hj_ hH hm_; exact absurd hm_ (Nat.not_lt_zero _)
                | succ n_ ih_ =>
                  intro j_ H_ hj_ hH hm_
                  refine g_iload_n O dX9_stroke_167 2 rfl rfl ?_
                  refine g_sipush (x := (nI 144)) O dX9_stroke_168 (by decide +kernel) ?_
                  refine g_icmp_geN (tgt := 197) O (by omega) (by omega) dX9_stroke_171 (by decide) (fun c_3 => ?_) (fun c_3 => ?_)
                  ·
                    obtain rfl : j_ = 144 := by omega
                    have hR := RM_on hF hG hH
                    refine g_aload_n O dX9_stroke_197 0 rfl rfl ?_
                    refine g_get O hiX9_stroke_X9 0 rfl rfl 4 (by decide) (by decide +kernel) rfl dX9_stroke_198 ?_
                    refine g_sipush (x := (nI 151)) O dX9_stroke_201 (by decide +kernel) ?_
                    refine g_dup2 O dX9_stroke_204 rfl rfl ?_
                    refine g_ialdN O 2 rfl (by omega) (by omega) dX9_stroke_205 ?_
                    refine g_eq (st' := [.int (sv_sk s), .int (nI 151), .ref u5]) (by rw [RM_sk hR, show sv_sk (s_g (s_fl s (onL (SW w) (sv_se s) (tgW w) (sv_g s) (sv_fl s))) (onG (SW w) (sv_se s) (tgW w) (sv_g s) (sv_fl s))) = sv_sk s from rfl]) rfl rfl ?_
                    refine g_iconst (x := (nI 1)) O dX9_stroke_206 (by decide +kernel) ?_
                    refine g_iadd O dX9_stroke_207 ?_
                    refine g_iastN (f' := (upd H_ 151 ((sv_sk s) + (nI 1)))) (ws' := [(u0, .inr (9, [.ref u1, .ref u2, .ref u3, .ref u4, .ref u5, .ref u6, .int (nI kn), .ref u7, .int (bB ik), .ref u8, .int (nI ty), .ref u9, .int (nI ta), .int (bB iw), .ref u10, .ref u11])), (u4, .inl (tyI D, 6912, .inl SWT)), (u5, .inl (tyI D, 208, .inl (upd H_ 151 ((sv_sk s) + (nI 1))))), (u9, .inl (tyI D, 144, .inl G_))]) O 2 rfl (by omega) (by omega) dX9_stroke_208 rfl rfl ?_
                    exact E 209 _ _ dX9_stroke_209 (⟨_, _, RM_wsk hR, rfl, rfl⟩)
                  ·
                    refine g_aload_n O dX9_stroke_174 0 rfl rfl ?_
                    refine g_get O hiX9_stroke_X9 0 rfl rfl 4 (by decide) (by decide +kernel) rfl dX9_stroke_175 ?_
                    refine g_iconst (x := (nI 0)) O dX9_stroke_178 (by decide +kernel) ?_
                    refine g_iload_n O dX9_stroke_179 2 rfl rfl ?_
                    refine g_iaddN O dX9_stroke_180 ?_
                    refine g_dup2 O dX9_stroke_181 rfl rfl ?_
                    refine g_ialdN O 2 rfl (by omega) (by omega) dX9_stroke_182 ?_
                    refine g_aload_n O dX9_stroke_183 0 rfl rfl ?_
                    refine g_get O hiX9_stroke_X9 0 rfl rfl 11 (by decide) (by decide +kernel) rfl dX9_stroke_184 ?_
                    refine g_iload_n O dX9_stroke_187 2 rfl rfl ?_
                    refine g_ialdN O 3 rfl (by omega) (by omega) dX9_stroke_188 ?_
                    refine g_iadd O dX9_stroke_189 ?_
                    refine g_iastN (f' := (upd H_ (0 + j_) ((H_ (0 + j_)) + (G_ j_)))) (ws' := [(u0, .inr (9, [.ref u1, .ref u2, .ref u3, .ref u4, .ref u5, .ref u6, .int (nI kn), .ref u7, .int (bB ik), .ref u8, .int (nI ty), .ref u9, .int (nI ta), .int (bB iw), .ref u10, .ref u11])), (u4, .inl (tyI D, 6912, .inl SWT)), (u5, .inl (tyI D, 208, .inl (upd H_ (0 + j_) ((H_ (0 + j_)) + (G_ j_))))), (u9, .inl (tyI D, 144, .inl G_))]) O 2 rfl (by omega) (by omega) dX9_stroke_190 rfl rfl ?_
                    refine g_iincN (L' := [(0, .ref u0), (1, .int (nI w)), (2, .int (nI (j_ + 1)))]) O dX9_stroke_191 2 rfl (by decide) [1, 2, 0] rfl ?_
                    refine g_goto (tgt := 167) O dX9_stroke_194 (by decide) ?_
                    exact ih_ (j_ + 1) _ (by first | assumption | omega | rfl) (fun j => by by_cases h : j = 0 + j_; (subst h; rw [pk_us, hH, if_neg (by omega), if_pos (by omega)]; congr 2; omega); (rw [pk_un h, hH]; by_cases h2 : j < j_; (rw [if_pos h2, if_pos (by omega)]); (rw [if_neg h2, if_neg (by omega)]))) (by omega)
              exact J167 _ 0 F_ (Nat.zero_le _) (fun j => by rw [if_neg (Nat.not_lt_zero j)]) (Nat.lt_succ_self _)
            ·
              have hgi := hg i_ c_2
              refine g_aload_n O dX9_stroke_31 0 rfl rfl ?_
              refine g_iload_n O dX9_stroke_32 1 rfl rfl ?_
              refine g_iload_n O dX9_stroke_33 2 rfl rfl ?_
              refine g_callV (As := [.int (nI w), .int (nI i_)]) (wr := [(u5, .inl (tyI D, 208, .inl F_)), (u9, .inl (tyI D, 144, .inl G_))]) O (kX9_swingAt l D z u0 u1 u2 u3 u4 u5 u6 u7 u8 u9 u10 u11 kn ik ty ta iw w i_ (by first | assumption | omega) (by first | assumption | omega)) gX9_stroke_X9_swingAt rfl rfl rfl 2 (by decide +kernel) (by decide) (by decide) (q0 := 0) rfl rfl rfl [0, 1] [2, 3] rfl (by decide) rfl (by decide) (by decide) rfl rfl (Nat.le_of_ble_eq_true rfl) dX9_stroke_34 (fun r_4 w_5 hp => ?_)
              obtain ⟨rfl, rfl⟩ := hp
              refine g_eq (st' := [.int (SW w i_)]) (ws' := [(u5, .inl (tyI D, 208, .inl F_)), (u9, .inl (tyI D, 144, .inl G_)), (u0, .inr (9, [.ref u1, .ref u2, .ref u3, .ref u4, .ref u5, .ref u6, .int (nI kn), .ref u7, .int (bB ik), .ref u8, .int (nI ty), .ref u9, .int (nI ta), .int (bB iw), .ref u10, .ref u11])), (u4, .inl (tyI D, 6912, .inl SWT))]) rfl rfl rfl ?_
              refine g_istore_n (L' := [(0, .ref u0), (1, .int (nI w)), (2, .int (nI i_)), (3, .int (SW w i_))]) O dX9_stroke_37 rfl (by decide) [1, 2, 3, 0] rfl ?_
              refine g_iload_n O dX9_stroke_38 3 rfl rfl ?_
              refine g_aload_n O dX9_stroke_39 0 rfl rfl ?_
              refine g_get O hiX9_stroke_X9 2 rfl rfl 4 (by decide) (by decide +kernel) rfl dX9_stroke_40 ?_
              refine g_sipush (x := (nI 146)) O dX9_stroke_43 (by decide +kernel) ?_
              refine g_ialdN O 0 rfl (by omega) (by omega) dX9_stroke_46 ?_
              refine g_eq (st' := [.int (sv_se s 2), .int (SW w i_)]) (by rw [RM_s2 hF, show sv_se (s_fl s f_) 2 = sv_se s 2 from rfl]) rfl rfl ?_
              refine g_icmp_le (tgt := 65) O dX9_stroke_47 (by decide) (fun c_6 => ?_) (fun c_6 => ?_)
              ·
                have hgo : goM (SW w) (sv_se s) (sv_g s) i_ = 0 := by simp only [goM]; rw [if_neg (Int32.not_lt.mpr c_6)]
                have hfa : fallM (SW w) (sv_se s) (sv_g s) i_ = false := by simp only [fallM]; rw [hgo]; rfl
                refine g_iconst (x := (nI 0)) O dX9_stroke_65 (by decide +kernel) ?_
                refine g_istore (L' := [(0, .ref u0), (1, .int (nI w)), (2, .int (nI i_)), (3, .int (SW w i_)), (4, .int (nI 0))]) O dX9_stroke_66 (by decide) [1, 2, 3, 4, 0] rfl ?_
                refine g_iload O dX9_stroke_68 4 rfl ?_
                refine g_if_leN (tgt := 117) O (by omega) dX9_stroke_70 (by decide) (fun c_7 => ?_) (fun c_7 => absurd c_7 (by decide))
                have hk : goM (SW w) (sv_se s) (sv_g s) i_ - (if false = true then 1 else 0) = 0 := by rw [hgo]; rfl
                refine g_aload_n O dX9_stroke_117 0 rfl rfl ?_
                refine g_iload_n O dX9_stroke_118 1 rfl rfl ?_
                refine g_iload_n O dX9_stroke_119 2 rfl rfl ?_
                refine g_callV (As := [.int (nI w), .int (nI i_)]) (wr := [(u5, .inl (tyI D, 208, .inl F_)), (u9, .inl (tyI D, 144, .inl G_))]) O (kX9_calmest l D z u0 u1 u2 u3 u4 u5 u6 u7 u8 u9 u10 u11 kn ik ty ta iw w i_ (by first | assumption | omega) (by first | assumption | omega)) gX9_stroke_X9_calmest rfl rfl rfl 2 (by decide +kernel) (by decide) (by decide) (q0 := 0) rfl rfl rfl [2, 3] [0, 1] rfl (by decide) rfl (by decide) (by decide) rfl rfl (Nat.le_of_ble_eq_true rfl) dX9_stroke_120 (fun r_8 w_9 hp => ?_)
                obtain ⟨rfl, rfl⟩ := hp
                refine g_eq (st' := [.int (nI (cmN w i_))]) (ws' := [(u5, .inl (tyI D, 208, .inl F_)), (u9, .inl (tyI D, 144, .inl G_)), (u0, .inr (9, [.ref u1, .ref u2, .ref u3, .ref u4, .ref u5, .ref u6, .int (nI kn), .ref u7, .int (bB ik), .ref u8, .int (nI ty), .ref u9, .int (nI ta), .int (bB iw), .ref u10, .ref u11])), (u4, .inl (tyI D, 6912, .inl SWT))]) rfl rfl rfl ?_
                refine g_istore (L' := [(0, .ref u0), (1, .int (nI w)), (2, .int (nI i_)), (3, .int (SW w i_)), (4, .int (nI 0)), (5, .int (nI (cmN w i_)))]) O dX9_stroke_123 (by decide) [1, 2, 3, 4, 5, 0] rfl ?_
                refine g_aload_n O dX9_stroke_125 0 rfl rfl ?_
                refine g_iload_n O dX9_stroke_126 1 rfl rfl ?_
                refine g_iload O dX9_stroke_127 5 rfl ?_
                refine g_callV (As := [.int (nI w), .int (nI (cmN w i_))]) (wr := [(u5, .inl (tyI D, 208, .inl F_)), (u9, .inl (tyI D, 144, .inl G_))]) O (kX9_swingAt l D z u0 u1 u2 u3 u4 u5 u6 u7 u8 u9 u10 u11 kn ik ty ta iw w (cmN w i_) (by first | assumption | omega | exact cmN_lt (by omega)) (by first | assumption | omega | exact cmN_lt (by omega))) gX9_stroke_X9_swingAt rfl rfl rfl 2 (by decide +kernel) (by decide) (by decide) (q0 := 0) rfl rfl rfl [2, 3] [0, 1] rfl (by decide) rfl (by decide) (by decide) rfl rfl (Nat.le_of_ble_eq_true rfl) dX9_stroke_129 (fun r_10 w_11 hp => ?_)
                obtain ⟨rfl, rfl⟩ := hp
                refine g_eq (st' := [.int (SW w (cmN w i_))]) (ws' := [(u5, .inl (tyI D, 208, .inl F_)), (u9, .inl (tyI D, 144, .inl G_)), (u0, .inr (9, [.ref u1, .ref u2, .ref u3, .ref u4, .ref u5, .ref u6, .int (nI kn), .ref u7, .int (bB ik), .ref u8, .int (nI ty), .ref u9, .int (nI ta), .int (bB iw), .ref u10, .ref u11])), (u4, .inl (tyI D, 6912, .inl SWT))]) rfl rfl rfl ?_
                refine g_iload_n O dX9_stroke_132 3 rfl rfl ?_
                refine g_icmp_ge (tgt := 159) O dX9_stroke_133 (by decide) (fun c_12 => ?_) (fun c_12 => ?_)
                ·
                  have hmo := mo_step hfa hk (by omega) hG
                  simp only [mst] at hmo
                  rw [if_neg (Int32.not_lt.mpr c_12)] at hmo
                  refine g_iincN (L' := [(0, .ref u0), (1, .int (nI w)), (2, .int (nI (i_ + 1))), (3, .int (SW w i_)), (4, .int (nI 0)), (5, .int (nI (cmN w i_)))]) O dX9_stroke_159 2 rfl (by decide) [1, 2, 0, 3, 4, 5] rfl ?_
                  refine g_goto (tgt := 24) O dX9_stroke_162 (by decide) ?_
                  refine g_perm (ws' := [(u0, .inr (9, [.ref u1, .ref u2, .ref u3, .ref u4, .ref u5, .ref u6, .int (nI kn), .ref u7, .int (bB ik), .ref u8, .int (nI ty), .ref u9, .int (nI ta), .int (bB iw), .ref u10, .ref u11])), (u4, .inl (tyI D, 6912, .inl SWT)), (u5, .inl (tyI D, 208, .inl F_)), (u9, .inl (tyI D, 144, .inl G_))]) [2, 3, 0, 1] rfl (by decide) ?_
                  refine g_locals (L' := [(0, .ref u0), (1, .int (nI w)), (2, .int (nI (i_ + 1)))]) [0, 1, 2] rfl ?_
                  exact ih_ (i_ + 1) F_ G_ f_ (by first | assumption | omega | rfl) (by first | exact hM1 | exact hF) (by rw [so_fl, hfa, hf]; rfl) (hmo) (by omega)
                ·
                  have hcn144 := cmN_lt (w := w) (p := i_) (by omega)
                  have hmo := mo_step hfa hk (by omega) hG
                  simp only [mst] at hmo
                  rw [if_pos (Int32.not_le.mp c_12)] at hmo
                  refine g_aload_n O dX9_stroke_136 0 rfl rfl ?_
                  refine g_get O hiX9_stroke_X9 2 rfl rfl 11 (by decide) (by decide +kernel) rfl dX9_stroke_137 ?_
                  refine g_iload_n O dX9_stroke_140 2 rfl rfl ?_
                  refine g_dup2 O dX9_stroke_141 rfl rfl ?_
                  refine g_ialdN O 1 rfl (by omega) (by omega) dX9_stroke_142 ?_
                  refine g_iload O dX9_stroke_143 4 rfl ?_
                  refine g_isub O dX9_stroke_145 ?_
                  refine g_iastN (f' := (upd G_ i_ ((G_ i_) - (nI 0)))) (ws' := [(u5, .inl (tyI D, 208, .inl F_)), (u9, .inl (tyI D, 144, .inl (upd G_ i_ ((G_ i_) - (nI 0))))), (u0, .inr (9, [.ref u1, .ref u2, .ref u3, .ref u4, .ref u5, .ref u6, .int (nI kn), .ref u7, .int (bB ik), .ref u8, .int (nI ty), .ref u9, .int (nI ta), .int (bB iw), .ref u10, .ref u11])), (u4, .inl (tyI D, 6912, .inl SWT))]) O 1 rfl (by omega) (by omega) dX9_stroke_146 rfl rfl ?_
                  refine g_aload_n O dX9_stroke_147 0 rfl rfl ?_
                  refine g_get O hiX9_stroke_X9 2 rfl rfl 11 (by decide) (by decide +kernel) rfl dX9_stroke_148 ?_
                  refine g_iload O dX9_stroke_151 5 rfl ?_
                  refine g_dup2 O dX9_stroke_153 rfl rfl ?_
                  refine g_ialdN O 1 rfl (by omega) (by omega) dX9_stroke_154 ?_
                  refine g_iload O dX9_stroke_155 4 rfl ?_
                  refine g_iadd O dX9_stroke_157 ?_
                  refine g_iastN (f' := (upd (upd G_ i_ ((G_ i_) - (nI 0))) (cmN w i_) (((upd G_ i_ ((G_ i_) - (nI 0))) (cmN w i_)) + (nI 0)))) (ws' := [(u5, .inl (tyI D, 208, .inl F_)), (u9, .inl (tyI D, 144, .inl (upd (upd G_ i_ ((G_ i_) - (nI 0))) (cmN w i_) (((upd G_ i_ ((G_ i_) - (nI 0))) (cmN w i_)) + (nI 0))))), (u0, .inr (9, [.ref u1, .ref u2, .ref u3, .ref u4, .ref u5, .ref u6, .int (nI kn), .ref u7, .int (bB ik), .ref u8, .int (nI ty), .ref u9, .int (nI ta), .int (bB iw), .ref u10, .ref u11])), (u4, .inl (tyI D, 6912, .inl SWT))]) O 1 rfl (by omega) (by omega) dX9_stroke_158 rfl rfl ?_
                  refine g_iincN (L' := [(0, .ref u0), (1, .int (nI w)), (2, .int (nI (i_ + 1))), (3, .int (SW w i_)), (4, .int (nI 0)), (5, .int (nI (cmN w i_)))]) O dX9_stroke_159 2 rfl (by decide) [1, 2, 0, 3, 4, 5] rfl ?_
                  refine g_goto (tgt := 24) O dX9_stroke_162 (by decide) ?_
                  refine g_perm (ws' := [(u0, .inr (9, [.ref u1, .ref u2, .ref u3, .ref u4, .ref u5, .ref u6, .int (nI kn), .ref u7, .int (bB ik), .ref u8, .int (nI ty), .ref u9, .int (nI ta), .int (bB iw), .ref u10, .ref u11])), (u4, .inl (tyI D, 6912, .inl SWT)), (u5, .inl (tyI D, 208, .inl F_)), (u9, .inl (tyI D, 144, .inl (upd (upd G_ i_ ((G_ i_) - (nI 0))) (cmN w i_) (((upd G_ i_ ((G_ i_) - (nI 0))) (cmN w i_)) + (nI 0)))))]) [2, 3, 0, 1] rfl (by decide) ?_
                  refine g_locals (L' := [(0, .ref u0), (1, .int (nI w)), (2, .int (nI (i_ + 1)))]) [0, 1, 2] rfl ?_
                  exact ih_ (i_ + 1) F_ (upd (upd G_ i_ ((G_ i_) - (nI 0))) (cmN w i_) (((upd G_ i_ ((G_ i_) - (nI 0))) (cmN w i_)) + (nI 0))) f_ (by first | assumption | omega | rfl) (by first | exact hM1 | exact hF) (by rw [so_fl, hfa, hf]; rfl) (hmo) (by omega)
              ·
                have hgo : goM (SW w) (sv_se s) (sv_g s) i_ = (sv_g s i_ + 1) / 2 := by simp only [goM]; rw [if_pos (Int32.not_le.mp c_6)]
                refine g_aload_n O dX9_stroke_50 0 rfl rfl ?_
                refine g_get O hiX9_stroke_X9 2 rfl rfl 4 (by decide) (by decide +kernel) rfl dX9_stroke_51 ?_
                refine g_iconst (x := (nI 0)) O dX9_stroke_54 (by decide +kernel) ?_
                refine g_iload_n O dX9_stroke_55 2 rfl rfl ?_
                refine g_iaddN O dX9_stroke_56 ?_
                refine g_ialdN O 0 rfl (by omega) (by omega) dX9_stroke_57 ?_
                refine g_eq (st' := [.int (nI (sv_g s i_))]) (by rw [RM_g0 hF (show i_ < 144 by omega), show sv_g (s_fl s f_) i_ = sv_g s i_ from rfl]) rfl rfl ?_
                refine g_iconst (x := (nI 1)) O dX9_stroke_58 (by decide +kernel) ?_
                refine g_iaddN O dX9_stroke_59 ?_
                refine g_iconst (x := (nI 2)) O dX9_stroke_60 (by decide +kernel) ?_
                refine g_idivN O (by omega) (by omega) (by omega) dX9_stroke_61 ?_
                refine g_goto (tgt := 66) O dX9_stroke_62 (by decide) ?_
                refine g_istore (L' := [(0, .ref u0), (1, .int (nI w)), (2, .int (nI i_)), (3, .int (SW w i_)), (4, .int (nI (((sv_g s i_) + 1) / 2)))]) O dX9_stroke_66 (by decide) [1, 2, 3, 4, 0] rfl ?_
                refine g_iload O dX9_stroke_68 4 rfl ?_
                refine g_if_leN (tgt := 117) O (by omega) dX9_stroke_70 (by decide) (fun c_13 => ?_) (fun c_13 => ?_)
                ·
                  have hfa : fallM (SW w) (sv_se s) (sv_g s) i_ = false := by simp only [fallM]; rw [hgo, c_13]; rfl
                  have hk : goM (SW w) (sv_se s) (sv_g s) i_ - (if false = true then 1 else 0) = ((sv_g s i_) + 1) / 2 := by rw [hgo]; rfl
                  refine g_aload_n O dX9_stroke_117 0 rfl rfl ?_
                  refine g_iload_n O dX9_stroke_118 1 rfl rfl ?_
                  refine g_iload_n O dX9_stroke_119 2 rfl rfl ?_
                  refine g_callV (As := [.int (nI w), .int (nI i_)]) (wr := [(u5, .inl (tyI D, 208, .inl F_)), (u9, .inl (tyI D, 144, .inl G_))]) O (kX9_calmest l D z u0 u1 u2 u3 u4 u5 u6 u7 u8 u9 u10 u11 kn ik ty ta iw w i_ (by first | assumption | omega) (by first | assumption | omega)) gX9_stroke_X9_calmest rfl rfl rfl 2 (by decide +kernel) (by decide) (by decide) (q0 := 0) rfl rfl rfl [2, 3] [0, 1] rfl (by decide) rfl (by decide) (by decide) rfl rfl (Nat.le_of_ble_eq_true rfl) dX9_stroke_120 (fun r_14 w_15 hp => ?_)
                  obtain ⟨rfl, rfl⟩ := hp
                  refine g_eq (st' := [.int (nI (cmN w i_))]) (ws' := [(u5, .inl (tyI D, 208, .inl F_)), (u9, .inl (tyI D, 144, .inl G_)), (u0, .inr (9, [.ref u1, .ref u2, .ref u3, .ref u4, .ref u5, .ref u6, .int (nI kn), .ref u7, .int (bB ik), .ref u8, .int (nI ty), .ref u9, .int (nI ta), .int (bB iw), .ref u10, .ref u11])), (u4, .inl (tyI D, 6912, .inl SWT))]) rfl rfl rfl ?_
                  refine g_istore (L' := [(0, .ref u0), (1, .int (nI w)), (2, .int (nI i_)), (3, .int (SW w i_)), (4, .int (nI (((sv_g s i_) + 1) / 2))), (5, .int (nI (cmN w i_)))]) O dX9_stroke_123 (by decide) [1, 2, 3, 4, 5, 0] rfl ?_
                  refine g_aload_n O dX9_stroke_125 0 rfl rfl ?_
                  refine g_iload_n O dX9_stroke_126 1 rfl rfl ?_
                  refine g_iload O dX9_stroke_127 5 rfl ?_
                  refine g_callV (As := [.int (nI w), .int (nI (cmN w i_))]) (wr := [(u5, .inl (tyI D, 208, .inl F_)), (u9, .inl (tyI D, 144, .inl G_))]) O (kX9_swingAt l D z u0 u1 u2 u3 u4 u5 u6 u7 u8 u9 u10 u11 kn ik ty ta iw w (cmN w i_) (by first | assumption | omega | exact cmN_lt (by omega)) (by first | assumption | omega | exact cmN_lt (by omega))) gX9_stroke_X9_swingAt rfl rfl rfl 2 (by decide +kernel) (by decide) (by decide) (q0 := 0) rfl rfl rfl [2, 3] [0, 1] rfl (by decide) rfl (by decide) (by decide) rfl rfl (Nat.le_of_ble_eq_true rfl) dX9_stroke_129 (fun r_16 w_17 hp => ?_)
                  obtain ⟨rfl, rfl⟩ := hp
                  refine g_eq (st' := [.int (SW w (cmN w i_))]) (ws' := [(u5, .inl (tyI D, 208, .inl F_)), (u9, .inl (tyI D, 144, .inl G_)), (u0, .inr (9, [.ref u1, .ref u2, .ref u3, .ref u4, .ref u5, .ref u6, .int (nI kn), .ref u7, .int (bB ik), .ref u8, .int (nI ty), .ref u9, .int (nI ta), .int (bB iw), .ref u10, .ref u11])), (u4, .inl (tyI D, 6912, .inl SWT))]) rfl rfl rfl ?_
                  refine g_iload_n O dX9_stroke_132 3 rfl rfl ?_
                  refine g_icmp_ge (tgt := 159) O dX9_stroke_133 (by decide) (fun c_18 => ?_) (fun c_18 => ?_)
                  ·
                    have hmo := mo_step hfa hk (by omega) hG
                    simp only [mst] at hmo
                    rw [if_neg (Int32.not_lt.mpr c_18)] at hmo
                    refine g_iincN (L' := [(0, .ref u0), (1, .int (nI w)), (2, .int (nI (i_ + 1))), (3, .int (SW w i_)), (4, .int (nI (((sv_g s i_) + 1) / 2))), (5, .int (nI (cmN w i_)))]) O dX9_stroke_159 2 rfl (by decide) [1, 2, 0, 3, 4, 5] rfl ?_
                    refine g_goto (tgt := 24) O dX9_stroke_162 (by decide) ?_
                    refine g_perm (ws' := [(u0, .inr (9, [.ref u1, .ref u2, .ref u3, .ref u4, .ref u5, .ref u6, .int (nI kn), .ref u7, .int (bB ik), .ref u8, .int (nI ty), .ref u9, .int (nI ta), .int (bB iw), .ref u10, .ref u11])), (u4, .inl (tyI D, 6912, .inl SWT)), (u5, .inl (tyI D, 208, .inl F_)), (u9, .inl (tyI D, 144, .inl G_))]) [2, 3, 0, 1] rfl (by decide) ?_
                    refine g_locals (L' := [(0, .ref u0), (1, .int (nI w)), (2, .int (nI (i_ + 1)))]) [0, 1, 2] rfl ?_
                    exact ih_ (i_ + 1) F_ G_ f_ (by first | assumption | omega | rfl) (by first | exact hM1 | exact hF) (by rw [so_fl, hfa, hf]; rfl) (hmo) (by omega)
                  ·
                    have hcn144 := cmN_lt (w := w) (p := i_) (by omega)
                    have hmo := mo_step hfa hk (by omega) hG
                    simp only [mst] at hmo
                    rw [if_pos (Int32.not_le.mp c_18)] at hmo
                    refine g_aload_n O dX9_stroke_136 0 rfl rfl ?_
                    refine g_get O hiX9_stroke_X9 2 rfl rfl 11 (by decide) (by decide +kernel) rfl dX9_stroke_137 ?_
                    refine g_iload_n O dX9_stroke_140 2 rfl rfl ?_
                    refine g_dup2 O dX9_stroke_141 rfl rfl ?_
                    refine g_ialdN O 1 rfl (by omega) (by omega) dX9_stroke_142 ?_
                    refine g_iload O dX9_stroke_143 4 rfl ?_
                    refine g_isub O dX9_stroke_145 ?_
                    refine g_iastN (f' := (upd G_ i_ ((G_ i_) - (nI (((sv_g s i_) + 1) / 2))))) (ws' := [(u5, .inl (tyI D, 208, .inl F_)), (u9, .inl (tyI D, 144, .inl (upd G_ i_ ((G_ i_) - (nI (((sv_g s i_) + 1) / 2)))))), (u0, .inr (9, [.ref u1, .ref u2, .ref u3, .ref u4, .ref u5, .ref u6, .int (nI kn), .ref u7, .int (bB ik), .ref u8, .int (nI ty), .ref u9, .int (nI ta), .int (bB iw), .ref u10, .ref u11])), (u4, .inl (tyI D, 6912, .inl SWT))]) O 1 rfl (by omega) (by omega) dX9_stroke_146 rfl rfl ?_
                    refine g_aload_n O dX9_stroke_147 0 rfl rfl ?_
                    refine g_get O hiX9_stroke_X9 2 rfl rfl 11 (by decide) (by decide +kernel) rfl dX9_stroke_148 ?_
                    refine g_iload O dX9_stroke_151 5 rfl ?_
                    refine g_dup2 O dX9_stroke_153 rfl rfl ?_
                    refine g_ialdN O 1 rfl (by omega) (by omega) dX9_stroke_154 ?_
                    refine g_iload O dX9_stroke_155 4 rfl ?_
                    refine g_iadd O dX9_stroke_157 ?_
                    refine g_iastN (f' := (upd (upd G_ i_ ((G_ i_) - (nI (((sv_g s i_) + 1) / 2)))) (cmN w i_) (((upd G_ i_ ((G_ i_) - (nI (((sv_g s i_) + 1) / 2)))) (cmN w i_)) + (nI (((sv_g s i_) + 1) / 2))))) (ws' := [(u5, .inl (tyI D, 208, .inl F_)), (u9, .inl (tyI D, 144, .inl (upd (upd G_ i_ ((G_ i_) - (nI (((sv_g s i_) + 1) / 2)))) (cmN w i_) (((upd G_ i_ ((G_ i_) - (nI (((sv_g s i_) + 1) / 2)))) (cmN w i_)) + (nI (((sv_g s i_) + 1) / 2)))))), (u0, .inr (9, [.ref u1, .ref u2, .ref u3, .ref u4, .ref u5, .ref u6, .int (nI kn), .ref u7, .int (bB ik), .ref u8, .int (nI ty), .ref u9, .int (nI ta), .int (bB iw), .ref u10, .ref u11])), (u4, .inl (tyI D, 6912, .inl SWT))]) O 1 rfl (by omega) (by omega) dX9_stroke_158 rfl rfl ?_
                    refine g_iincN (L' := [(0, .ref u0), (1, .int (nI w)), (2, .int (nI (i_ + 1))), (3, .int (SW w i_)), (4, .int (nI (((sv_g s i_) + 1) / 2))), (5, .int (nI (cmN w i_)))]) O dX9_stroke_159 2 rfl (by decide) [1, 2, 0, 3, 4, 5] rfl ?_
                    refine g_goto (tgt := 24) O dX9_stroke_162 (by decide) ?_
                    refine g_perm (ws' := [(u0, .inr (9, [.ref u1, .ref u2, .ref u3, .ref u4, .ref u5, .ref u6, .int (nI kn), .ref u7, .int (bB ik), .ref u8, .int (nI ty), .ref u9, .int (nI ta), .int (bB iw), .ref u10, .ref u11])), (u4, .inl (tyI D, 6912, .inl SWT)), (u5, .inl (tyI D, 208, .inl F_)), (u9, .inl (tyI D, 144, .inl (upd (upd G_ i_ ((G_ i_) - (nI (((sv_g s i_) + 1) / 2)))) (cmN w i_) (((upd G_ i_ ((G_ i_) - (nI (((sv_g s i_) + 1) / 2)))) (cmN w i_)) + (nI (((sv_g s i_) + 1) / 2))))))]) [2, 3, 0, 1] rfl (by decide) ?_
                    refine g_locals (L' := [(0, .ref u0), (1, .int (nI w)), (2, .int (nI (i_ + 1)))]) [0, 1, 2] rfl ?_
                    exact ih_ (i_ + 1) F_ (upd (upd G_ i_ ((G_ i_) - (nI (((sv_g s i_) + 1) / 2)))) (cmN w i_) (((upd G_ i_ ((G_ i_) - (nI (((sv_g s i_) + 1) / 2)))) (cmN w i_)) + (nI (((sv_g s i_) + 1) / 2)))) f_ (by first | assumption | omega | rfl) (by first | exact hM1 | exact hF) (by rw [so_fl, hfa, hf]; rfl) (hmo) (by omega)
                ·
                  have h70 := c_13
                  refine g_iload_n O dX9_stroke_73 2 rfl rfl ?_
                  refine g_callS (As := [.int (nI i_)]) (wr := [(u5, .inl (tyI D, 208, .inl F_)), (u9, .inl (tyI D, 144, .inl G_)), (u0, .inr (9, [.ref u1, .ref u2, .ref u3, .ref u4, .ref u5, .ref u6, .int (nI kn), .ref u7, .int (bB ik), .ref u8, .int (nI ty), .ref u9, .int (nI ta), .int (bB iw), .ref u10, .ref u11])), (u4, .inl (tyI D, 6912, .inl SWT))]) O (kX9_isEdge l D z i_ (by first | assumption | omega)) gX9_stroke_X9_isEdge rfl rfl rfl 1 (by decide +kernel) (by decide) (by decide) [] [0, 1, 2, 3] rfl (by decide) rfl (by decide) (by decide) rfl rfl (Nat.le_of_ble_eq_true rfl) dX9_stroke_74 (fun r_19 w_20 hp => ?_)
                  obtain ⟨rfl, rfl⟩ := hp
                  refine g_eq (st' := [.int (bB (edB i_))]) (ws' := [(u5, .inl (tyI D, 208, .inl F_)), (u9, .inl (tyI D, 144, .inl G_)), (u0, .inr (9, [.ref u1, .ref u2, .ref u3, .ref u4, .ref u5, .ref u6, .int (nI kn), .ref u7, .int (bB ik), .ref u8, .int (nI ty), .ref u9, .int (nI ta), .int (bB iw), .ref u10, .ref u11])), (u4, .inl (tyI D, 6912, .inl SWT))]) rfl rfl rfl ?_
                  refine g_if_eqB (tgt := 117) O dX9_stroke_77 (by decide) (fun c_21 => ?_) (fun c_21 => ?_)
                  ·
                    have hfa : fallM (SW w) (sv_se s) (sv_g s) i_ = false := by simp only [fallM, flB]; rw [c_21]; simp
                    have hk : goM (SW w) (sv_se s) (sv_g s) i_ - (if false = true then 1 else 0) = ((sv_g s i_) + 1) / 2 := by rw [hgo]; rfl
                    refine g_aload_n O dX9_stroke_117 0 rfl rfl ?_
                    refine g_iload_n O dX9_stroke_118 1 rfl rfl ?_
                    refine g_iload_n O dX9_stroke_119 2 rfl rfl ?_
                    refine g_callV (As := [.int (nI w), .int (nI i_)]) (wr := [(u5, .inl (tyI D, 208, .inl F_)), (u9, .inl (tyI D, 144, .inl G_))]) O (kX9_calmest l D z u0 u1 u2 u3 u4 u5 u6 u7 u8 u9 u10 u11 kn ik ty ta iw w i_ (by first | assumption | omega) (by first | assumption | omega)) gX9_stroke_X9_calmest rfl rfl rfl 2 (by decide +kernel) (by decide) (by decide) (q0 := 0) rfl rfl rfl [2, 3] [0, 1] rfl (by decide) rfl (by decide) (by decide) rfl rfl (Nat.le_of_ble_eq_true rfl) dX9_stroke_120 (fun r_22 w_23 hp => ?_)
                    obtain ⟨rfl, rfl⟩ := hp
                    refine g_eq (st' := [.int (nI (cmN w i_))]) (ws' := [(u5, .inl (tyI D, 208, .inl F_)), (u9, .inl (tyI D, 144, .inl G_)), (u0, .inr (9, [.ref u1, .ref u2, .ref u3, .ref u4, .ref u5, .ref u6, .int (nI kn), .ref u7, .int (bB ik), .ref u8, .int (nI ty), .ref u9, .int (nI ta), .int (bB iw), .ref u10, .ref u11])), (u4, .inl (tyI D, 6912, .inl SWT))]) rfl rfl rfl ?_
                    refine g_istore (L' := [(0, .ref u0), (1, .int (nI w)), (2, .int (nI i_)), (3, .int (SW w i_)), (4, .int (nI (((sv_g s i_) + 1) / 2))), (5, .int (nI (cmN w i_)))]) O dX9_stroke_123 (by decide) [1, 2, 3, 4, 5, 0] rfl ?_
                    refine g_aload_n O dX9_stroke_125 0 rfl rfl ?_
                    refine g_iload_n O dX9_stroke_126 1 rfl rfl ?_
                    refine g_iload O dX9_stroke_127 5 rfl ?_
                    refine g_callV (As := [.int (nI w), .int (nI (cmN w i_))]) (wr := [(u5, .inl (tyI D, 208, .inl F_)), (u9, .inl (tyI D, 144, .inl G_))]) O (kX9_swingAt l D z u0 u1 u2 u3 u4 u5 u6 u7 u8 u9 u10 u11 kn ik ty ta iw w (cmN w i_) (by first | assumption | omega | exact cmN_lt (by omega)) (by first | assumption | omega | exact cmN_lt (by omega))) gX9_stroke_X9_swingAt rfl rfl rfl 2 (by decide +kernel) (by decide) (by decide) (q0 := 0) rfl rfl rfl [2, 3] [0, 1] rfl (by decide) rfl (by decide) (by decide) rfl rfl (Nat.le_of_ble_eq_true rfl) dX9_stroke_129 (fun r_24 w_25 hp => ?_)
                    obtain ⟨rfl, rfl⟩ := hp
                    refine g_eq (st' := [.int (SW w (cmN w i_))]) (ws' := [(u5, .inl (tyI D, 208, .inl F_)), (u9, .inl (tyI D, 144, .inl G_)), (u0, .inr (9, [.ref u1, .ref u2, .ref u3, .ref u4, .ref u5, .ref u6, .int (nI kn), .ref u7, .int (bB ik), .ref u8, .int (nI ty), .ref u9, .int (nI ta), .int (bB iw), .ref u10, .ref u11])), (u4, .inl (tyI D, 6912, .inl SWT))]) rfl rfl rfl ?_
                    refine g_iload_n O dX9_stroke_132 3 rfl rfl ?_
                    refine g_icmp_ge (tgt := 159) O dX9_stroke_133 (by decide) (fun c_26 => ?_) (fun c_26 => ?_)
                    ·
                      have hmo := mo_step hfa hk (by omega) hG
                      simp only [mst] at hmo
                      rw [if_neg (Int32.not_lt.mpr c_26)] at hmo
                      refine g_iincN (L' := [(0, .ref u0), (1, .int (nI w)), (2, .int (nI (i_ + 1))), (3, .int (SW w i_)), (4, .int (nI (((sv_g s i_) + 1) / 2))), (5, .int (nI (cmN w i_)))]) O dX9_stroke_159 2 rfl (by decide) [1, 2, 0, 3, 4, 5] rfl ?_
                      refine g_goto (tgt := 24) O dX9_stroke_162 (by decide) ?_
                      refine g_perm (ws' := [(u0, .inr (9, [.ref u1, .ref u2, .ref u3, .ref u4, .ref u5, .ref u6, .int (nI kn), .ref u7, .int (bB ik), .ref u8, .int (nI ty), .ref u9, .int (nI ta), .int (bB iw), .ref u10, .ref u11])), (u4, .inl (tyI D, 6912, .inl SWT)), (u5, .inl (tyI D, 208, .inl F_)), (u9, .inl (tyI D, 144, .inl G_))]) [2, 3, 0, 1] rfl (by decide) ?_
                      refine g_locals (L' := [(0, .ref u0), (1, .int (nI w)), (2, .int (nI (i_ + 1)))]) [0, 1, 2] rfl ?_
                      exact ih_ (i_ + 1) F_ G_ f_ (by first | assumption | omega | rfl) (by first | exact hM1 | exact hF) (by rw [so_fl, hfa, hf]; rfl) (hmo) (by omega)
                    ·
                      have hcn144 := cmN_lt (w := w) (p := i_) (by omega)
                      have hmo := mo_step hfa hk (by omega) hG
                      simp only [mst] at hmo
                      rw [if_pos (Int32.not_le.mp c_26)] at hmo
                      refine g_aload_n O dX9_stroke_136 0 rfl rfl ?_
                      refine g_get O hiX9_stroke_X9 2 rfl rfl 11 (by decide) (by decide +kernel) rfl dX9_stroke_137 ?_
                      refine g_iload_n O dX9_stroke_140 2 rfl rfl ?_
                      refine g_dup2 O dX9_stroke_141 rfl rfl ?_
                      refine g_ialdN O 1 rfl (by omega) (by omega) dX9_stroke_142 ?_
                      refine g_iload O dX9_stroke_143 4 rfl ?_
                      refine g_isub O dX9_stroke_145 ?_
                      refine g_iastN (f' := (upd G_ i_ ((G_ i_) - (nI (((sv_g s i_) + 1) / 2))))) (ws' := [(u5, .inl (tyI D, 208, .inl F_)), (u9, .inl (tyI D, 144, .inl (upd G_ i_ ((G_ i_) - (nI (((sv_g s i_) + 1) / 2)))))), (u0, .inr (9, [.ref u1, .ref u2, .ref u3, .ref u4, .ref u5, .ref u6, .int (nI kn), .ref u7, .int (bB ik), .ref u8, .int (nI ty), .ref u9, .int (nI ta), .int (bB iw), .ref u10, .ref u11])), (u4, .inl (tyI D, 6912, .inl SWT))]) O 1 rfl (by omega) (by omega) dX9_stroke_146 rfl rfl ?_
                      refine g_aload_n O dX9_stroke_147 0 rfl rfl ?_
                      refine g_get O hiX9_stroke_X9 2 rfl rfl 11 (by decide) (by decide +kernel) rfl dX9_stroke_148 ?_
                      refine g_iload O dX9_stroke_151 5 rfl ?_
                      refine g_dup2 O dX9_stroke_153 rfl rfl ?_
                      refine g_ialdN O 1 rfl (by omega) (by omega) dX9_stroke_154 ?_
                      refine g_iload O dX9_stroke_155 4 rfl ?_
                      refine g_iadd O dX9_stroke_157 ?_
                      refine g_iastN (f' := (upd (upd G_ i_ ((G_ i_) - (nI (((sv_g s i_) + 1) / 2)))) (cmN w i_) (((upd G_ i_ ((G_ i_) - (nI (((sv_g s i_) + 1) / 2)))) (cmN w i_)) + (nI (((sv_g s i_) + 1) / 2))))) (ws' := [(u5, .inl (tyI D, 208, .inl F_)), (u9, .inl (tyI D, 144, .inl (upd (upd G_ i_ ((G_ i_) - (nI (((sv_g s i_) + 1) / 2)))) (cmN w i_) (((upd G_ i_ ((G_ i_) - (nI (((sv_g s i_) + 1) / 2)))) (cmN w i_)) + (nI (((sv_g s i_) + 1) / 2)))))), (u0, .inr (9, [.ref u1, .ref u2, .ref u3, .ref u4, .ref u5, .ref u6, .int (nI kn), .ref u7, .int (bB ik), .ref u8, .int (nI ty), .ref u9, .int (nI ta), .int (bB iw), .ref u10, .ref u11])), (u4, .inl (tyI D, 6912, .inl SWT))]) O 1 rfl (by omega) (by omega) dX9_stroke_158 rfl rfl ?_
                      refine g_iincN (L' := [(0, .ref u0), (1, .int (nI w)), (2, .int (nI (i_ + 1))), (3, .int (SW w i_)), (4, .int (nI (((sv_g s i_) + 1) / 2))), (5, .int (nI (cmN w i_)))]) O dX9_stroke_159 2 rfl (by decide) [1, 2, 0, 3, 4, 5] rfl ?_
                      refine g_goto (tgt := 24) O dX9_stroke_162 (by decide) ?_
                      refine g_perm (ws' := [(u0, .inr (9, [.ref u1, .ref u2, .ref u3, .ref u4, .ref u5, .ref u6, .int (nI kn), .ref u7, .int (bB ik), .ref u8, .int (nI ty), .ref u9, .int (nI ta), .int (bB iw), .ref u10, .ref u11])), (u4, .inl (tyI D, 6912, .inl SWT)), (u5, .inl (tyI D, 208, .inl F_)), (u9, .inl (tyI D, 144, .inl (upd (upd G_ i_ ((G_ i_) - (nI (((sv_g s i_) + 1) / 2)))) (cmN w i_) (((upd G_ i_ ((G_ i_) - (nI (((sv_g s i_) + 1) / 2)))) (cmN w i_)) + (nI (((sv_g s i_) + 1) / 2))))))]) [2, 3, 0, 1] rfl (by decide) ?_
                      refine g_locals (L' := [(0, .ref u0), (1, .int (nI w)), (2, .int (nI (i_ + 1)))]) [0, 1, 2] rfl ?_
                      exact ih_ (i_ + 1) F_ (upd (upd G_ i_ ((G_ i_) - (nI (((sv_g s i_) + 1) / 2)))) (cmN w i_) (((upd G_ i_ ((G_ i_) - (nI (((sv_g s i_) + 1) / 2)))) (cmN w i_)) + (nI (((sv_g s i_) + 1) / 2)))) f_ (by first | assumption | omega | rfl) (by first | exact hM1 | exact hF) (by rw [so_fl, hfa, hf]; rfl) (hmo) (by omega)
                  ·
                    have h77 := c_21
                    refine g_iload_n O dX9_stroke_80 3 rfl rfl ?_
                    refine g_aload_n O dX9_stroke_81 0 rfl rfl ?_
                    refine g_get O hiX9_stroke_X9 2 rfl rfl 4 (by decide) (by decide +kernel) rfl dX9_stroke_82 ?_
                    refine g_sipush (x := (nI 147)) O dX9_stroke_85 (by decide +kernel) ?_
                    refine g_ialdN O 0 rfl (by omega) (by omega) dX9_stroke_88 ?_
                    refine g_eq (st' := [.int (sv_se s 3), .int (SW w i_)]) (by rw [RM_s3 hF, show sv_se (s_fl s f_) 3 = sv_se s 3 from rfl]) rfl rfl ?_
                    refine g_icmp_lt (tgt := 117) O dX9_stroke_89 (by decide) (fun c_27 => ?_) (fun c_27 => ?_)
                    ·
                      have hfa : fallM (SW w) (sv_se s) (sv_g s) i_ = false := by simp only [fallM, flB]; rw [decide_eq_false (Int32.not_le.mpr c_27)]; simp
                      have hk : goM (SW w) (sv_se s) (sv_g s) i_ - (if false = true then 1 else 0) = ((sv_g s i_) + 1) / 2 := by rw [hgo]; rfl
                      refine g_aload_n O dX9_stroke_117 0 rfl rfl ?_
                      refine g_iload_n O dX9_stroke_118 1 rfl rfl ?_
                      refine g_iload_n O dX9_stroke_119 2 rfl rfl ?_
                      refine g_callV (As := [.int (nI w), .int (nI i_)]) (wr := [(u5, .inl (tyI D, 208, .inl F_)), (u9, .inl (tyI D, 144, .inl G_))]) O (kX9_calmest l D z u0 u1 u2 u3 u4 u5 u6 u7 u8 u9 u10 u11 kn ik ty ta iw w i_ (by first | assumption | omega) (by first | assumption | omega)) gX9_stroke_X9_calmest rfl rfl rfl 2 (by decide +kernel) (by decide) (by decide) (q0 := 0) rfl rfl rfl [2, 3] [0, 1] rfl (by decide) rfl (by decide) (by decide) rfl rfl (Nat.le_of_ble_eq_true rfl) dX9_stroke_120 (fun r_28 w_29 hp => ?_)
                      obtain ⟨rfl, rfl⟩ := hp
                      refine g_eq (st' := [.int (nI (cmN w i_))]) (ws' := [(u5, .inl (tyI D, 208, .inl F_)), (u9, .inl (tyI D, 144, .inl G_)), (u0, .inr (9, [.ref u1, .ref u2, .ref u3, .ref u4, .ref u5, .ref u6, .int (nI kn), .ref u7, .int (bB ik), .ref u8, .int (nI ty), .ref u9, .int (nI ta), .int (bB iw), .ref u10, .ref u11])), (u4, .inl (tyI D, 6912, .inl SWT))]) rfl rfl rfl ?_
                      refine g_istore (L' := [(0, .ref u0), (1, .int (nI w)), (2, .int (nI i_)), (3, .int (SW w i_)), (4, .int (nI (((sv_g s i_) + 1) / 2))), (5, .int (nI (cmN w i_)))]) O dX9_stroke_123 (by decide) [1, 2, 3, 4, 5, 0] rfl ?_
                      refine g_aload_n O dX9_stroke_125 0 rfl rfl ?_
                      refine g_iload_n O dX9_stroke_126 1 rfl rfl ?_
                      refine g_iload O dX9_stroke_127 5 rfl ?_
                      refine g_callV (As := [.int (nI w), .int (nI (cmN w i_))]) (wr := [(u5, .inl (tyI D, 208, .inl F_)), (u9, .inl (tyI D, 144, .inl G_))]) O (kX9_swingAt l D z u0 u1 u2 u3 u4 u5 u6 u7 u8 u9 u10 u11 kn ik ty ta iw w (cmN w i_) (by first | assumption | omega | exact cmN_lt (by omega)) (by first | assumption | omega | exact cmN_lt (by omega))) gX9_stroke_X9_swingAt rfl rfl rfl 2 (by decide +kernel) (by decide) (by decide) (q0 := 0) rfl rfl rfl [2, 3] [0, 1] rfl (by decide) rfl (by decide) (by decide) rfl rfl (Nat.le_of_ble_eq_true rfl) dX9_stroke_129 (fun r_30 w_31 hp => ?_)
                      obtain ⟨rfl, rfl⟩ := hp
                      refine g_eq (st' := [.int (SW w (cmN w i_))]) (ws' := [(u5, .inl (tyI D, 208, .inl F_)), (u9, .inl (tyI D, 144, .inl G_)), (u0, .inr (9, [.ref u1, .ref u2, .ref u3, .ref u4, .ref u5, .ref u6, .int (nI kn), .ref u7, .int (bB ik), .ref u8, .int (nI ty), .ref u9, .int (nI ta), .int (bB iw), .ref u10, .ref u11])), (u4, .inl (tyI D, 6912, .inl SWT))]) rfl rfl rfl ?_
                      refine g_iload_n O dX9_stroke_132 3 rfl rfl ?_
                      refine g_icmp_ge (tgt := 159) O dX9_stroke_133 (by decide) (fun c_32 => ?_) (fun c_32 => ?_)
                      ·
                        have hmo := mo_step hfa hk (by omega) hG
                        simp only [mst] at hmo
                        rw [if_neg (Int32.not_lt.mpr c_32)] at hmo
                        refine g_iincN (L' := [(0, .ref u0), (1, .int (nI w)), (2, .int (nI (i_ + 1))), (3, .int (SW w i_)), (4, .int (nI (((sv_g s i_) + 1) / 2))), (5, .int (nI (cmN w i_)))]) O dX9_stroke_159 2 rfl (by decide) [1, 2, 0, 3, 4, 5] rfl ?_
                        refine g_goto (tgt := 24) O dX9_stroke_162 (by decide) ?_
                        refine g_perm (ws' := [(u0, .inr (9, [.ref u1, .ref u2, .ref u3, .ref u4, .ref u5, .ref u6, .int (nI kn), .ref u7, .int (bB ik), .ref u8, .int (nI ty), .ref u9, .int (nI ta), .int (bB iw), .ref u10, .ref u11])), (u4, .inl (tyI D, 6912, .inl SWT)), (u5, .inl (tyI D, 208, .inl F_)), (u9, .inl (tyI D, 144, .inl G_))]) [2, 3, 0, 1] rfl (by decide) ?_
                        refine g_locals (L' := [(0, .ref u0), (1, .int (nI w)), (2, .int (nI (i_ + 1)))]) [0, 1, 2] rfl ?_
                        exact ih_ (i_ + 1) F_ G_ f_ (by first | assumption | omega | rfl) (by first | exact hM1 | exact hF) (by rw [so_fl, hfa, hf]; rfl) (hmo) (by omega)
                      ·
                        have hcn144 := cmN_lt (w := w) (p := i_) (by omega)
                        have hmo := mo_step hfa hk (by omega) hG
                        simp only [mst] at hmo
                        rw [if_pos (Int32.not_le.mp c_32)] at hmo
                        refine g_aload_n O dX9_stroke_136 0 rfl rfl ?_
                        refine g_get O hiX9_stroke_X9 2 rfl rfl 11 (by decide) (by decide +kernel) rfl dX9_stroke_137 ?_
                        refine g_iload_n O dX9_stroke_140 2 rfl rfl ?_
                        refine g_dup2 O dX9_stroke_141 rfl rfl ?_
                        refine g_ialdN O 1 rfl (by omega) (by omega) dX9_stroke_142 ?_
                        refine g_iload O dX9_stroke_143 4 rfl ?_
                        refine g_isub O dX9_stroke_145 ?_
                        refine g_iastN (f' := (upd G_ i_ ((G_ i_) - (nI (((sv_g s i_) + 1) / 2))))) (ws' := [(u5, .inl (tyI D, 208, .inl F_)), (u9, .inl (tyI D, 144, .inl (upd G_ i_ ((G_ i_) - (nI (((sv_g s i_) + 1) / 2)))))), (u0, .inr (9, [.ref u1, .ref u2, .ref u3, .ref u4, .ref u5, .ref u6, .int (nI kn), .ref u7, .int (bB ik), .ref u8, .int (nI ty), .ref u9, .int (nI ta), .int (bB iw), .ref u10, .ref u11])), (u4, .inl (tyI D, 6912, .inl SWT))]) O 1 rfl (by omega) (by omega) dX9_stroke_146 rfl rfl ?_
                        refine g_aload_n O dX9_stroke_147 0 rfl rfl ?_
                        refine g_get O hiX9_stroke_X9 2 rfl rfl 11 (by decide) (by decide +kernel) rfl dX9_stroke_148 ?_
                        refine g_iload O dX9_stroke_151 5 rfl ?_
                        refine g_dup2 O dX9_stroke_153 rfl rfl ?_
                        refine g_ialdN O 1 rfl (by omega) (by omega) dX9_stroke_154 ?_
                        refine g_iload O dX9_stroke_155 4 rfl ?_
                        refine g_iadd O dX9_stroke_157 ?_
                        refine g_iastN (f' := (upd (upd G_ i_ ((G_ i_) - (nI (((sv_g s i_) + 1) / 2)))) (cmN w i_) (((upd G_ i_ ((G_ i_) - (nI (((sv_g s i_) + 1) / 2)))) (cmN w i_)) + (nI (((sv_g s i_) + 1) / 2))))) (ws' := [(u5, .inl (tyI D, 208, .inl F_)), (u9, .inl (tyI D, 144, .inl (upd (upd G_ i_ ((G_ i_) - (nI (((sv_g s i_) + 1) / 2)))) (cmN w i_) (((upd G_ i_ ((G_ i_) - (nI (((sv_g s i_) + 1) / 2)))) (cmN w i_)) + (nI (((sv_g s i_) + 1) / 2)))))), (u0, .inr (9, [.ref u1, .ref u2, .ref u3, .ref u4, .ref u5, .ref u6, .int (nI kn), .ref u7, .int (bB ik), .ref u8, .int (nI ty), .ref u9, .int (nI ta), .int (bB iw), .ref u10, .ref u11])), (u4, .inl (tyI D, 6912, .inl SWT))]) O 1 rfl (by omega) (by omega) dX9_stroke_158 rfl rfl ?_
                        refine g_iincN (L' := [(0, .ref u0), (1, .int (nI w)), (2, .int (nI (i_ + 1))), (3, .int (SW w i_)), (4, .int (nI (((sv_g s i_) + 1) / 2))), (5, .int (nI (cmN w i_)))]) O dX9_stroke_159 2 rfl (by decide) [1, 2, 0, 3, 4, 5] rfl ?_
                        refine g_goto (tgt := 24) O dX9_stroke_162 (by decide) ?_
                        refine g_perm (ws' := [(u0, .inr (9, [.ref u1, .ref u2, .ref u3, .ref u4, .ref u5, .ref u6, .int (nI kn), .ref u7, .int (bB ik), .ref u8, .int (nI ty), .ref u9, .int (nI ta), .int (bB iw), .ref u10, .ref u11])), (u4, .inl (tyI D, 6912, .inl SWT)), (u5, .inl (tyI D, 208, .inl F_)), (u9, .inl (tyI D, 144, .inl (upd (upd G_ i_ ((G_ i_) - (nI (((sv_g s i_) + 1) / 2)))) (cmN w i_) (((upd G_ i_ ((G_ i_) - (nI (((sv_g s i_) + 1) / 2)))) (cmN w i_)) + (nI (((sv_g s i_) + 1) / 2))))))]) [2, 3, 0, 1] rfl (by decide) ?_
                        refine g_locals (L' := [(0, .ref u0), (1, .int (nI w)), (2, .int (nI (i_ + 1)))]) [0, 1, 2] rfl ?_
                        exact ih_ (i_ + 1) F_ (upd (upd G_ i_ ((G_ i_) - (nI (((sv_g s i_) + 1) / 2)))) (cmN w i_) (((upd G_ i_ ((G_ i_) - (nI (((sv_g s i_) + 1) / 2)))) (cmN w i_)) + (nI (((sv_g s i_) + 1) / 2)))) f_ (by first | assumption | omega | rfl) (by first | exact hM1 | exact hF) (by rw [so_fl, hfa, hf]; rfl) (hmo) (by omega)
                    ·
                      have hfa : fallM (SW w) (sv_se s) (sv_g s) i_ = true := by simp only [fallM, flB]; rw [hgo, decide_eq_true h70, h77, decide_eq_true (Int32.not_lt.mp c_27)]; rfl
                      refine g_aload_n O dX9_stroke_92 0 rfl rfl ?_
                      refine g_get O hiX9_stroke_X9 2 rfl rfl 11 (by decide) (by decide +kernel) rfl dX9_stroke_93 ?_
                      refine g_iload_n O dX9_stroke_96 2 rfl rfl ?_
                      refine g_dup2 O dX9_stroke_97 rfl rfl ?_
                      refine g_ialdN O 1 rfl (by omega) (by omega) dX9_stroke_98 ?_
                      refine g_iconst (x := (nI 1)) O dX9_stroke_99 (by decide +kernel) ?_
                      refine g_isub O dX9_stroke_100 ?_
                      refine g_iastN (f' := (upd G_ i_ ((G_ i_) - (nI 1)))) (ws' := [(u5, .inl (tyI D, 208, .inl F_)), (u9, .inl (tyI D, 144, .inl (upd G_ i_ ((G_ i_) - (nI 1))))), (u0, .inr (9, [.ref u1, .ref u2, .ref u3, .ref u4, .ref u5, .ref u6, .int (nI kn), .ref u7, .int (bB ik), .ref u8, .int (nI ty), .ref u9, .int (nI ta), .int (bB iw), .ref u10, .ref u11])), (u4, .inl (tyI D, 6912, .inl SWT))]) O 1 rfl (by omega) (by omega) dX9_stroke_101 rfl rfl ?_
                      refine g_aload_n O dX9_stroke_102 0 rfl rfl ?_
                      refine g_get O hiX9_stroke_X9 2 rfl rfl 4 (by decide) (by decide +kernel) rfl dX9_stroke_103 ?_
                      refine g_sipush (x := (nI 150)) O dX9_stroke_106 (by decide +kernel) ?_
                      refine g_dup2 O dX9_stroke_109 rfl rfl ?_
                      refine g_ialdN O 0 rfl (by omega) (by omega) dX9_stroke_110 ?_
                      refine g_eq (st' := [.int f_, .int (nI 150), .ref u5]) (by rw [RM_fl hF, show sv_fl (s_fl s f_) = f_ from rfl]) rfl rfl ?_
                      refine g_iconst (x := (nI 1)) O dX9_stroke_111 (by decide +kernel) ?_
                      refine g_iadd O dX9_stroke_112 ?_
                      refine g_iastN (f' := (upd F_ 150 (f_ + (nI 1)))) (ws' := [(u5, .inl (tyI D, 208, .inl (upd F_ 150 (f_ + (nI 1))))), (u9, .inl (tyI D, 144, .inl (upd G_ i_ ((G_ i_) - (nI 1))))), (u0, .inr (9, [.ref u1, .ref u2, .ref u3, .ref u4, .ref u5, .ref u6, .int (nI kn), .ref u7, .int (bB ik), .ref u8, .int (nI ty), .ref u9, .int (nI ta), .int (bB iw), .ref u10, .ref u11])), (u4, .inl (tyI D, 6912, .inl SWT))]) O 0 rfl (by omega) (by omega) dX9_stroke_113 rfl rfl ?_
                      have hM1 : RM (upd F_ 150 (f_ + (nI 1))) (s_fl s (f_ + nI 1)) := RM_wfl hF
                      generalize (upd F_ 150 (f_ + (nI 1))) = M1 at hM1 ⊢
                      refine g_iinc (L' := [(0, .ref u0), (1, .int (nI w)), (2, .int (nI i_)), (3, .int (SW w i_)), (4, .int (nI ((((sv_g s i_) + 1) / 2) - 1)))]) O dX9_stroke_114 4 rfl (nI_dec (by omega)) (by decide) [1, 2, 3, 4, 0] rfl ?_
                      have hk : goM (SW w) (sv_se s) (sv_g s) i_ - (if true = true then 1 else 0) = (((sv_g s i_) + 1) / 2) - 1 := by rw [hgo]; rfl
                      refine g_aload_n O dX9_stroke_117 0 rfl rfl ?_
                      refine g_iload_n O dX9_stroke_118 1 rfl rfl ?_
                      refine g_iload_n O dX9_stroke_119 2 rfl rfl ?_
                      refine g_callV (As := [.int (nI w), .int (nI i_)]) (wr := [(u5, .inl (tyI D, 208, .inl M1)), (u9, .inl (tyI D, 144, .inl (upd G_ i_ ((G_ i_) - (nI 1)))))]) O (kX9_calmest l D z u0 u1 u2 u3 u4 u5 u6 u7 u8 u9 u10 u11 kn ik ty ta iw w i_ (by first | assumption | omega) (by first | assumption | omega)) gX9_stroke_X9_calmest rfl rfl rfl 2 (by decide +kernel) (by decide) (by decide) (q0 := 0) rfl rfl rfl [2, 3] [0, 1] rfl (by decide) rfl (by decide) (by decide) rfl rfl (Nat.le_of_ble_eq_true rfl) dX9_stroke_120 (fun r_33 w_34 hp => ?_)
                      obtain ⟨rfl, rfl⟩ := hp
                      refine g_eq (st' := [.int (nI (cmN w i_))]) (ws' := [(u5, .inl (tyI D, 208, .inl M1)), (u9, .inl (tyI D, 144, .inl (upd G_ i_ ((G_ i_) - (nI 1))))), (u0, .inr (9, [.ref u1, .ref u2, .ref u3, .ref u4, .ref u5, .ref u6, .int (nI kn), .ref u7, .int (bB ik), .ref u8, .int (nI ty), .ref u9, .int (nI ta), .int (bB iw), .ref u10, .ref u11])), (u4, .inl (tyI D, 6912, .inl SWT))]) rfl rfl rfl ?_
                      refine g_istore (L' := [(0, .ref u0), (1, .int (nI w)), (2, .int (nI i_)), (3, .int (SW w i_)), (4, .int (nI ((((sv_g s i_) + 1) / 2) - 1))), (5, .int (nI (cmN w i_)))]) O dX9_stroke_123 (by decide) [1, 2, 3, 4, 5, 0] rfl ?_
                      refine g_aload_n O dX9_stroke_125 0 rfl rfl ?_
                      refine g_iload_n O dX9_stroke_126 1 rfl rfl ?_
                      refine g_iload O dX9_stroke_127 5 rfl ?_
                      refine g_callV (As := [.int (nI w), .int (nI (cmN w i_))]) (wr := [(u5, .inl (tyI D, 208, .inl M1)), (u9, .inl (tyI D, 144, .inl (upd G_ i_ ((G_ i_) - (nI 1)))))]) O (kX9_swingAt l D z u0 u1 u2 u3 u4 u5 u6 u7 u8 u9 u10 u11 kn ik ty ta iw w (cmN w i_) (by first | assumption | omega | exact cmN_lt (by omega)) (by first | assumption | omega | exact cmN_lt (by omega))) gX9_stroke_X9_swingAt rfl rfl rfl 2 (by decide +kernel) (by decide) (by decide) (q0 := 0) rfl rfl rfl [2, 3] [0, 1] rfl (by decide) rfl (by decide) (by decide) rfl rfl (Nat.le_of_ble_eq_true rfl) dX9_stroke_129 (fun r_35 w_36 hp => ?_)
                      obtain ⟨rfl, rfl⟩ := hp
                      refine g_eq (st' := [.int (SW w (cmN w i_))]) (ws' := [(u5, .inl (tyI D, 208, .inl M1)), (u9, .inl (tyI D, 144, .inl (upd G_ i_ ((G_ i_) - (nI 1))))), (u0, .inr (9, [.ref u1, .ref u2, .ref u3, .ref u4, .ref u5, .ref u6, .int (nI kn), .ref u7, .int (bB ik), .ref u8, .int (nI ty), .ref u9, .int (nI ta), .int (bB iw), .ref u10, .ref u11])), (u4, .inl (tyI D, 6912, .inl SWT))]) rfl rfl rfl ?_
                      refine g_iload_n O dX9_stroke_132 3 rfl rfl ?_
                      refine g_icmp_ge (tgt := 159) O dX9_stroke_133 (by decide) (fun c_37 => ?_) (fun c_37 => ?_)
                      ·
                        have hmo := mo_step hfa hk (by omega) hG
                        simp only [mst] at hmo
                        rw [if_neg (Int32.not_lt.mpr c_37)] at hmo
                        refine g_iincN (L' := [(0, .ref u0), (1, .int (nI w)), (2, .int (nI (i_ + 1))), (3, .int (SW w i_)), (4, .int (nI ((((sv_g s i_) + 1) / 2) - 1))), (5, .int (nI (cmN w i_)))]) O dX9_stroke_159 2 rfl (by decide) [1, 2, 0, 3, 4, 5] rfl ?_
                        refine g_goto (tgt := 24) O dX9_stroke_162 (by decide) ?_
                        refine g_perm (ws' := [(u0, .inr (9, [.ref u1, .ref u2, .ref u3, .ref u4, .ref u5, .ref u6, .int (nI kn), .ref u7, .int (bB ik), .ref u8, .int (nI ty), .ref u9, .int (nI ta), .int (bB iw), .ref u10, .ref u11])), (u4, .inl (tyI D, 6912, .inl SWT)), (u5, .inl (tyI D, 208, .inl M1)), (u9, .inl (tyI D, 144, .inl (upd G_ i_ ((G_ i_) - (nI 1)))))]) [2, 3, 0, 1] rfl (by decide) ?_
                        refine g_locals (L' := [(0, .ref u0), (1, .int (nI w)), (2, .int (nI (i_ + 1)))]) [0, 1, 2] rfl ?_
                        exact ih_ (i_ + 1) M1 (upd G_ i_ ((G_ i_) - (nI 1))) (f_ + nI 1) (by first | assumption | omega | rfl) (by first | exact hM1 | exact hF) (by rw [so_fl, hfa, hf]; rfl) (hmo) (by omega)
                      ·
                        have hcn144 := cmN_lt (w := w) (p := i_) (by omega)
                        have hmo := mo_step hfa hk (by omega) hG
                        simp only [mst] at hmo
                        rw [if_pos (Int32.not_le.mp c_37)] at hmo
                        refine g_aload_n O dX9_stroke_136 0 rfl rfl ?_
                        refine g_get O hiX9_stroke_X9 2 rfl rfl 11 (by decide) (by decide +kernel) rfl dX9_stroke_137 ?_
                        refine g_iload_n O dX9_stroke_140 2 rfl rfl ?_
                        refine g_dup2 O dX9_stroke_141 rfl rfl ?_
                        refine g_ialdN O 1 rfl (by omega) (by omega) dX9_stroke_142 ?_
                        refine g_iload O dX9_stroke_143 4 rfl ?_
                        refine g_isub O dX9_stroke_145 ?_
                        refine g_iastN (f' := (upd (upd G_ i_ ((G_ i_) - (nI 1))) i_ (((upd G_ i_ ((G_ i_) - (nI 1))) i_) - (nI ((((sv_g s i_) + 1) / 2) - 1))))) (ws' := [(u5, .inl (tyI D, 208, .inl M1)), (u9, .inl (tyI D, 144, .inl (upd (upd G_ i_ ((G_ i_) - (nI 1))) i_ (((upd G_ i_ ((G_ i_) - (nI 1))) i_) - (nI ((((sv_g s i_) + 1) / 2) - 1)))))), (u0, .inr (9, [.ref u1, .ref u2, .ref u3, .ref u4, .ref u5, .ref u6, .int (nI kn), .ref u7, .int (bB ik), .ref u8, .int (nI ty), .ref u9, .int (nI ta), .int (bB iw), .ref u10, .ref u11])), (u4, .inl (tyI D, 6912, .inl SWT))]) O 1 rfl (by omega) (by omega) dX9_stroke_146 rfl rfl ?_
                        refine g_aload_n O dX9_stroke_147 0 rfl rfl ?_
                        refine g_get O hiX9_stroke_X9 2 rfl rfl 11 (by decide) (by decide +kernel) rfl dX9_stroke_148 ?_
                        refine g_iload O dX9_stroke_151 5 rfl ?_
                        refine g_dup2 O dX9_stroke_153 rfl rfl ?_
                        refine g_ialdN O 1 rfl (by omega) (by omega) dX9_stroke_154 ?_
                        refine g_iload O dX9_stroke_155 4 rfl ?_
                        refine g_iadd O dX9_stroke_157 ?_
                        refine g_iastN (f' := (upd (upd (upd G_ i_ ((G_ i_) - (nI 1))) i_ (((upd G_ i_ ((G_ i_) - (nI 1))) i_) - (nI ((((sv_g s i_) + 1) / 2) - 1)))) (cmN w i_) (((upd (upd G_ i_ ((G_ i_) - (nI 1))) i_ (((upd G_ i_ ((G_ i_) - (nI 1))) i_) - (nI ((((sv_g s i_) + 1) / 2) - 1)))) (cmN w i_)) + (nI ((((sv_g s i_) + 1) / 2) - 1))))) (ws' := [(u5, .inl (tyI D, 208, .inl M1)), (u9, .inl (tyI D, 144, .inl (upd (upd (upd G_ i_ ((G_ i_) - (nI 1))) i_ (((upd G_ i_ ((G_ i_) - (nI 1))) i_) - (nI ((((sv_g s i_) + 1) / 2) - 1)))) (cmN w i_) (((upd (upd G_ i_ ((G_ i_) - (nI 1))) i_ (((upd G_ i_ ((G_ i_) - (nI 1))) i_) - (nI ((((sv_g s i_) + 1) / 2) - 1)))) (cmN w i_)) + (nI ((((sv_g s i_) + 1) / 2) - 1)))))), (u0, .inr (9, [.ref u1, .ref u2, .ref u3, .ref u4, .ref u5, .ref u6, .int (nI kn), .ref u7, .int (bB ik), .ref u8, .int (nI ty), .ref u9, .int (nI ta), .int (bB iw), .ref u10, .ref u11])), (u4, .inl (tyI D, 6912, .inl SWT))]) O 1 rfl (by omega) (by omega) dX9_stroke_158 rfl rfl ?_
                        refine g_iincN (L' := [(0, .ref u0), (1, .int (nI w)), (2, .int (nI (i_ + 1))), (3, .int (SW w i_)), (4, .int (nI ((((sv_g s i_) + 1) / 2) - 1))), (5, .int (nI (cmN w i_)))]) O dX9_stroke_159 2 rfl (by decide) [1, 2, 0, 3, 4, 5] rfl ?_
                        refine g_goto (tgt := 24) O dX9_stroke_162 (by decide) ?_
                        refine g_perm (ws' := [(u0, .inr (9, [.ref u1, .ref u2, .ref u3, .ref u4, .ref u5, .ref u6, .int (nI kn), .ref u7, .int (bB ik), .ref u8, .int (nI ty), .ref u9, .int (nI ta), .int (bB iw), .ref u10, .ref u11])), (u4, .inl (tyI D, 6912, .inl SWT)), (u5, .inl (tyI D, 208, .inl M1)), (u9, .inl (tyI D, 144, .inl (upd (upd (upd G_ i_ ((G_ i_) - (nI 1))) i_ (((upd G_ i_ ((G_ i_) - (nI 1))) i_) - (nI ((((sv_g s i_) + 1) / 2) - 1)))) (cmN w i_) (((upd (upd G_ i_ ((G_ i_) - (nI 1))) i_ (((upd G_ i_ ((G_ i_) - (nI 1))) i_) - (nI ((((sv_g s i_) + 1) / 2) - 1)))) (cmN w i_)) + (nI ((((sv_g s i_) + 1) / 2) - 1))))))]) [2, 3, 0, 1] rfl (by decide) ?_
                        refine g_locals (L' := [(0, .ref u0), (1, .int (nI w)), (2, .int (nI (i_ + 1)))]) [0, 1, 2] rfl ?_
                        exact ih_ (i_ + 1) M1 (upd (upd (upd G_ i_ ((G_ i_) - (nI 1))) i_ (((upd G_ i_ ((G_ i_) - (nI 1))) i_) - (nI ((((sv_g s i_) + 1) / 2) - 1)))) (cmN w i_) (((upd (upd G_ i_ ((G_ i_) - (nI 1))) i_ (((upd G_ i_ ((G_ i_) - (nI 1))) i_) - (nI ((((sv_g s i_) + 1) / 2) - 1)))) (cmN w i_)) + (nI ((((sv_g s i_) + 1) / 2) - 1)))) (f_ + nI 1) (by first | assumption | omega | rfl) (by first | exact hM1 | exact hF) (by rw [so_fl, hfa, hf]; rfl) (hmo) (by omega)
        exact J24 _ 0 M (fun _ => 0) (sv_fl s) (Nat.zero_le _) (hM) (rfl) (fun j _ => (moF_0 _ _ _ _ _ j).symm) (Nat.lt_succ_self _)
      ·
        refine g_aload_n O dX9_stroke_9 0 rfl rfl ?_
        refine g_get O hiX9_stroke_X9 0 rfl rfl 11 (by decide) (by decide +kernel) rfl dX9_stroke_10 ?_
        refine g_iload_n O dX9_stroke_13 2 rfl rfl ?_
        refine g_iconst (x := (nI 0)) O dX9_stroke_14 (by decide +kernel) ?_
        refine g_iastN (f' := (upd Z_ i_ (nI 0))) (ws' := [(u0, .inr (9, [.ref u1, .ref u2, .ref u3, .ref u4, .ref u5, .ref u6, .int (nI kn), .ref u7, .int (bB ik), .ref u8, .int (nI ty), .ref u9, .int (nI ta), .int (bB iw), .ref u10, .ref u11])), (u4, .inl (tyI D, 6912, .inl SWT)), (u5, .inl (tyI D, 208, .inl M)), (u9, .inl (tyI D, 144, .inl (upd Z_ i_ (nI 0))))]) O 3 rfl (by omega) (by omega) dX9_stroke_15 rfl rfl ?_
        refine g_iincN (L' := [(0, .ref u0), (1, .int (nI w)), (2, .int (nI (i_ + 1)))]) O dX9_stroke_16 2 rfl (by decide) [1, 2, 0] rfl ?_
        refine g_goto (tgt := 2) O dX9_stroke_19 (by decide) ?_
        exact ih_ (i_ + 1) _ (by first | assumption | omega | rfl) (fun j hj => by by_cases h : j = i_; (subst h; exact pk_us); (rw [pk_un h]; exact hF j (by omega))) (by omega)
  exact J2 _ 0 _ (Nat.zero_le _) (fun j hj => absurd hj (Nat.not_lt_zero _)) (Nat.lt_succ_self _)
