theorem hiX9_findWays_X9 : ∀ w ∈ wsX90, w ∈ wsX9_findWays := by intro w h; simp only [wsX9_findWays, List.mem_append, List.mem_cons, h, or_true, true_or]
set_option maxHeartbeats 2000000 in
set_option maxRecDepth 100000 in
/-- the ways and their swings -/
theorem kX9_findWays (l : Launch) (D : va_G) (z : Nat × Nat × Nat) (u0 : Nat) (u1 : Nat) (u2 : Nat) (u3 : Nat) (u4 : Nat) (u5 : Nat) (u6 : Nat) (u7 : Nat) (u8 : Nat) (u9 : Nat) (u10 : Nat) (u11 : Nat) (kn : Nat) (ik : Bool) (ty : Nat) (ta : Nat) (iw : Bool)  : CM l yX9_findWays wsX9_findWays ({ frames := 1, cells := 0, slots := 0, locals := 22 } : Room) D z [.ref u0] [(u0, .inr (9, [.ref u1, .ref u2, .ref u3, .ref u4, .ref u5, .ref u6, .int (nI kn), .ref u7, .int (bB ik), .ref u8, .int (nI ty), .ref u9, .int (nI ta), .int (bB iw), .ref u10, .ref u11])), (u1, .inl (tyI D, 48, .inl (nf (la1 ([]))))), (u2, .inl (tyI D, 48, .inl (nf (la2 ([]))))), (u3, .inl (tyI D, 48, .inl (nf (la3 ([]))))), (u4, .inl (tyI D, 6912, .inl (nf (fun _ => 0))))] (fun r_ w_ => r_ = none ∧ w_ = [(u0, .inr (9, [.ref u1, .ref u2, .ref u3, .ref u4, .ref u5, .ref u6, .int (nI kn), .ref u7, .int (bB ik), .ref u8, .int (nI ty), .ref u9, .int (nI ta), .int (bB iw), .ref u10, .ref u11])), (u1, .inl (tyI D, 48, .inl (nf tM))), (u2, .inl (tyI D, 48, .inl (nf tN))), (u3, .inl (tyI D, 48, .inl (nf tS))), (u4, .inl (tyI D, 6912, .inl SWT))]) 0 0 := by
  refine CM_void (own := RX9) (cc := cX9_findWays) (maxL := 8) (L0 := [(0, .ref u0)]) (by decide) rfl rfl (Nat.le_of_ble_eq_true rfl) rfl (fun X O E => ?_)
  refine g_iconst (x := (nI 0)) O dX9_findWays_0 (by decide +kernel) ?_
  refine g_istore_n (L' := [(0, .ref u0), (1, .int (nI 0))]) O dX9_findWays_1 rfl (by decide) [1, 0] rfl ?_
  refine g_bipush (x := (nI 10)) O dX9_findWays_2 (by decide +kernel) ?_
  refine g_istore_n (L' := [(0, .ref u0), (1, .int (nI 0)), (2, .int (nI 10))]) O dX9_findWays_4 rfl (by decide) [1, 2, 0] rfl ?_
  have J5 : ∀ (n_ : Nat), ∀ (i_ : Nat) (hi_ : i_ ≤ 712), 712 - i_ < n_ → G X 0 0 5 [(0, .ref u0), (1, .int (nI (((fwA i_)).length))), (2, .int (nI (10 + i_)))] [] [(u0, .inr (9, [.ref u1, .ref u2, .ref u3, .ref u4, .ref u5, .ref u6, .int (nI kn), .ref u7, .int (bB ik), .ref u8, .int (nI ty), .ref u9, .int (nI ta), .int (bB iw), .ref u10, .ref u11])), (u1, .inl (tyI D, 48, .inl (nf (la1 (fwA i_))))), (u2, .inl (tyI D, 48, .inl (nf (la2 (fwA i_))))), (u3, .inl (tyI D, 48, .inl (nf (la3 (fwA i_))))), (u4, .inl (tyI D, 6912, .inl (nf (fun _ => 0))))] := by
    intro n_
    induction n_ with
    | zero => intro i_ hi_ hm_; exact absurd hm_ (Nat.not_lt_zero _)
    | succ n_ ih_ =>
      intro i_ hi_ hm_
      refine g_iload_n O dX9_findWays_5 2 rfl rfl ?_
      refine g_sipush (x := (nI 721)) O dX9_findWays_6 (by decide +kernel) ?_
      refine g_icmp_gtN (tgt := 128) O (by omega) (by omega) dX9_findWays_9 (by decide) (fun c_1 => ?_) (fun c_1 => ?_)
      ·
        obtain rfl : i_ = 712 := by omega
        refine g_eq (ws' := [(u0, .inr (9, [.ref u1, .ref u2, .ref u3, .ref u4, .ref u5, .ref u6, .int (nI kn), .ref u7, .int (bB ik), .ref u8, .int (nI ty), .ref u9, .int (nI ta), .int (bB iw), .ref u10, .ref u11])), (u1, .inl (tyI D, 48, .inl (nf tM))), (u2, .inl (tyI D, 48, .inl (nf tN))), (u3, .inl (tyI D, 48, .inl (nf tS))), (u4, .inl (tyI D, 6912, .inl (nf (fun _ => 0))))]) rfl rfl (by rw [fwA_all]; rfl) ?_
        refine g_iconst (x := (nI 0)) O dX9_findWays_128 (by decide +kernel) ?_
        refine g_istore_n (L' := [(0, .ref u0), (1, .int (nI (((fwA 712)).length))), (2, .int (nI 0))]) O dX9_findWays_129 rfl (by decide) [1, 2, 0] rfl ?_
        have J130 : ∀ (n_ : Nat), ∀ (j_ : Nat) (E_ : Nat → Int32) (hj : j_ ≤ 6912) (hE : ∀ i, i < j_ → E_ i = SWT i), 6912 - j_ < n_ → G X 0 0 130 [(0, .ref u0), (1, .int (nI (((fwA 712)).length))), (2, .int (nI j_))] [] [(u0, .inr (9, [.ref u1, .ref u2, .ref u3, .ref u4, .ref u5, .ref u6, .int (nI kn), .ref u7, .int (bB ik), .ref u8, .int (nI ty), .ref u9, .int (nI ta), .int (bB iw), .ref u10, .ref u11])), (u1, .inl (tyI D, 48, .inl (nf tM))), (u2, .inl (tyI D, 48, .inl (nf tN))), (u3, .inl (tyI D, 48, .inl (nf tS))), (u4, .inl (tyI D, 6912, .inl E_))] := by
          intro n_
          induction n_ with
          | zero => intro j_ E_ hj hE hm_; exact absurd hm_ (Nat.not_lt_zero _)
          | succ n_ ih130 =>
            intro j_ E_ hj hE hm_
            refine g_iload_n O dX9_findWays_130 2 rfl rfl ?_
            refine g_sipush (x := (nI 6912)) O dX9_findWays_131 (by decide +kernel) ?_
            refine g_icmp_geN (tgt := 250) O (by omega) (by omega) dX9_findWays_134 (by decide) (fun c_2 => ?_) (fun c_2 => ?_)
            ·
              refine g_arr (f' := SWT) (ws' := [(u0, .inr (9, [.ref u1, .ref u2, .ref u3, .ref u4, .ref u5, .ref u6, .int (nI kn), .ref u7, .int (bB ik), .ref u8, .int (nI ty), .ref u9, .int (nI ta), .int (bB iw), .ref u10, .ref u11])), (u1, .inl (tyI D, 48, .inl (nf tM))), (u2, .inl (tyI D, 48, .inl (nf tN))), (u3, .inl (tyI D, 48, .inl (nf tS))), (u4, .inl (tyI D, 6912, .inl SWT))]) 4 rfl (fun j hj => hE j (by omega)) rfl ?_
              exact E 250 _ _ dX9_findWays_250 ⟨rfl, rfl⟩
            ·
              obtain ⟨ht1, ht2, ht3⟩ := tab_all (j_ / 144) (by omega)
              have hsw := SWT_e j_
              refine g_iload_n O dX9_findWays_137 2 rfl rfl ?_
              refine g_sipush (x := (nI 144)) O dX9_findWays_138 (by decide +kernel) ?_
              refine g_idivN O (by omega) (by omega) (by omega) dX9_findWays_141 ?_
              refine g_istore_n (L' := [(0, .ref u0), (1, .int (nI (((fwA 712)).length))), (2, .int (nI j_)), (3, .int (nI (j_ / 144)))]) O dX9_findWays_142 rfl (by decide) [1, 2, 3, 0] rfl ?_
              refine g_iload_n O dX9_findWays_143 2 rfl rfl ?_
              refine g_bipush (x := (nI 12)) O dX9_findWays_144 (by decide +kernel) ?_
              refine g_iremN O (by omega) (by omega) (by omega) dX9_findWays_146 ?_
              refine g_istore (L' := [(0, .ref u0), (1, .int (nI (((fwA 712)).length))), (2, .int (nI j_)), (3, .int (nI (j_ / 144))), (4, .int (nI (j_ % 12)))]) O dX9_findWays_147 (by decide) [1, 2, 3, 4, 0] rfl ?_
              refine g_iload_n O dX9_findWays_149 2 rfl rfl ?_
              refine g_sipush (x := (nI 144)) O dX9_findWays_150 (by decide +kernel) ?_
              refine g_iremN O (by omega) (by omega) (by omega) dX9_findWays_153 ?_
              refine g_bipush (x := (nI 12)) O dX9_findWays_154 (by decide +kernel) ?_
              refine g_idivN O (by omega) (by omega) (by omega) dX9_findWays_156 ?_
              refine g_istore (L' := [(0, .ref u0), (1, .int (nI (((fwA 712)).length))), (2, .int (nI j_)), (3, .int (nI (j_ / 144))), (4, .int (nI (j_ % 12))), (5, .int (nI ((j_ % 144) / 12)))]) O dX9_findWays_157 (by decide) [1, 2, 3, 4, 5, 0] rfl ?_
              refine g_aload_n O dX9_findWays_159 0 rfl rfl ?_
              refine g_get O hiX9_findWays_X9 0 rfl rfl 0 (by decide) (by decide +kernel) rfl dX9_findWays_160 ?_
              refine g_iload_n O dX9_findWays_163 3 rfl rfl ?_
              refine g_ialdN O 1 rfl (by omega) (by omega) dX9_findWays_164 ?_
              refine g_iload O dX9_findWays_165 4 rfl ?_
              refine g_callS (As := [.int (nI (tM (j_ / 144))), .int (nI (j_ % 12))]) (wr := [(u0, .inr (9, [.ref u1, .ref u2, .ref u3, .ref u4, .ref u5, .ref u6, .int (nI kn), .ref u7, .int (bB ik), .ref u8, .int (nI ty), .ref u9, .int (nI ta), .int (bB iw), .ref u10, .ref u11])), (u1, .inl (tyI D, 48, .inl (nf tM))), (u2, .inl (tyI D, 48, .inl (nf tN))), (u3, .inl (tyI D, 48, .inl (nf tS))), (u4, .inl (tyI D, 6912, .inl E_))]) O (kX9_wave l D z (tM (j_ / 144)) (j_ % 12) (by first | assumption | omega) (by first | assumption | omega)) gX9_findWays_X9_wave rfl rfl rfl 2 (by decide +kernel) (by decide) (by decide) [] [0, 1, 2, 3, 4] rfl (by decide) rfl (by decide) (by decide) rfl rfl (Nat.le_of_ble_eq_true rfl) dX9_findWays_167 (fun r_3 w_4 hp => ?_)
              obtain ⟨rfl, rfl⟩ := hp
              refine g_eq (st' := [.int (hW (tM (j_ / 144)) (j_ % 12))]) (ws' := [(u0, .inr (9, [.ref u1, .ref u2, .ref u3, .ref u4, .ref u5, .ref u6, .int (nI kn), .ref u7, .int (bB ik), .ref u8, .int (nI ty), .ref u9, .int (nI ta), .int (bB iw), .ref u10, .ref u11])), (u1, .inl (tyI D, 48, .inl (nf tM))), (u2, .inl (tyI D, 48, .inl (nf tN))), (u3, .inl (tyI D, 48, .inl (nf tS))), (u4, .inl (tyI D, 6912, .inl E_))]) rfl rfl rfl ?_
              refine g_aload_n O dX9_findWays_170 0 rfl rfl ?_
              refine g_get O hiX9_findWays_X9 0 rfl rfl 1 (by decide) (by decide +kernel) rfl dX9_findWays_171 ?_
              refine g_iload_n O dX9_findWays_174 3 rfl rfl ?_
              refine g_ialdN O 2 rfl (by omega) (by omega) dX9_findWays_175 ?_
              refine g_iload O dX9_findWays_176 5 rfl ?_
              refine g_callS (As := [.int (nI (tN (j_ / 144))), .int (nI ((j_ % 144) / 12))]) (wr := [(u0, .inr (9, [.ref u1, .ref u2, .ref u3, .ref u4, .ref u5, .ref u6, .int (nI kn), .ref u7, .int (bB ik), .ref u8, .int (nI ty), .ref u9, .int (nI ta), .int (bB iw), .ref u10, .ref u11])), (u1, .inl (tyI D, 48, .inl (nf tM))), (u2, .inl (tyI D, 48, .inl (nf tN))), (u3, .inl (tyI D, 48, .inl (nf tS))), (u4, .inl (tyI D, 6912, .inl E_))]) O (kX9_wave l D z (tN (j_ / 144)) ((j_ % 144) / 12) (by first | assumption | omega) (by first | assumption | omega)) gX9_findWays_X9_wave rfl rfl rfl 2 (by decide +kernel) (by decide) (by decide) [] [0, 1, 2, 3, 4] rfl (by decide) rfl (by decide) (by decide) rfl rfl (Nat.le_of_ble_eq_true rfl) dX9_findWays_178 (fun r_5 w_6 hp => ?_)
              obtain ⟨rfl, rfl⟩ := hp
              refine g_eq (st' := [.int (hW (tN (j_ / 144)) ((j_ % 144) / 12)), .int (hW (tM (j_ / 144)) (j_ % 12))]) (ws' := [(u0, .inr (9, [.ref u1, .ref u2, .ref u3, .ref u4, .ref u5, .ref u6, .int (nI kn), .ref u7, .int (bB ik), .ref u8, .int (nI ty), .ref u9, .int (nI ta), .int (bB iw), .ref u10, .ref u11])), (u1, .inl (tyI D, 48, .inl (nf tM))), (u2, .inl (tyI D, 48, .inl (nf tN))), (u3, .inl (tyI D, 48, .inl (nf tS))), (u4, .inl (tyI D, 6912, .inl E_))]) rfl rfl rfl ?_
              refine g_imul O dX9_findWays_181 ?_
              refine g_istore (L' := [(0, .ref u0), (1, .int (nI (((fwA 712)).length))), (2, .int (nI j_)), (3, .int (nI (j_ / 144))), (4, .int (nI (j_ % 12))), (5, .int (nI ((j_ % 144) / 12))), (6, .int ((hW (tM (j_ / 144)) (j_ % 12)) * (hW (tN (j_ / 144)) ((j_ % 144) / 12))))]) O dX9_findWays_182 (by decide) [1, 2, 3, 4, 5, 6, 0] rfl ?_
              refine g_aload_n O dX9_findWays_184 0 rfl rfl ?_
              refine g_get O hiX9_findWays_X9 0 rfl rfl 1 (by decide) (by decide +kernel) rfl dX9_findWays_185 ?_
              refine g_iload_n O dX9_findWays_188 3 rfl rfl ?_
              refine g_ialdN O 2 rfl (by omega) (by omega) dX9_findWays_189 ?_
              refine g_iload O dX9_findWays_190 4 rfl ?_
              refine g_callS (As := [.int (nI (tN (j_ / 144))), .int (nI (j_ % 12))]) (wr := [(u0, .inr (9, [.ref u1, .ref u2, .ref u3, .ref u4, .ref u5, .ref u6, .int (nI kn), .ref u7, .int (bB ik), .ref u8, .int (nI ty), .ref u9, .int (nI ta), .int (bB iw), .ref u10, .ref u11])), (u1, .inl (tyI D, 48, .inl (nf tM))), (u2, .inl (tyI D, 48, .inl (nf tN))), (u3, .inl (tyI D, 48, .inl (nf tS))), (u4, .inl (tyI D, 6912, .inl E_))]) O (kX9_wave l D z (tN (j_ / 144)) (j_ % 12) (by first | assumption | omega) (by first | assumption | omega)) gX9_findWays_X9_wave rfl rfl rfl 2 (by decide +kernel) (by decide) (by decide) [] [0, 1, 2, 3, 4] rfl (by decide) rfl (by decide) (by decide) rfl rfl (Nat.le_of_ble_eq_true rfl) dX9_findWays_192 (fun r_7 w_8 hp => ?_)
              obtain ⟨rfl, rfl⟩ := hp
              refine g_eq (st' := [.int (hW (tN (j_ / 144)) (j_ % 12))]) (ws' := [(u0, .inr (9, [.ref u1, .ref u2, .ref u3, .ref u4, .ref u5, .ref u6, .int (nI kn), .ref u7, .int (bB ik), .ref u8, .int (nI ty), .ref u9, .int (nI ta), .int (bB iw), .ref u10, .ref u11])), (u1, .inl (tyI D, 48, .inl (nf tM))), (u2, .inl (tyI D, 48, .inl (nf tN))), (u3, .inl (tyI D, 48, .inl (nf tS))), (u4, .inl (tyI D, 6912, .inl E_))]) rfl rfl rfl ?_
              refine g_aload_n O dX9_findWays_195 0 rfl rfl ?_
              refine g_get O hiX9_findWays_X9 0 rfl rfl 0 (by decide) (by decide +kernel) rfl dX9_findWays_196 ?_
              refine g_iload_n O dX9_findWays_199 3 rfl rfl ?_
              refine g_ialdN O 1 rfl (by omega) (by omega) dX9_findWays_200 ?_
              refine g_iload O dX9_findWays_201 5 rfl ?_
              refine g_callS (As := [.int (nI (tM (j_ / 144))), .int (nI ((j_ % 144) / 12))]) (wr := [(u0, .inr (9, [.ref u1, .ref u2, .ref u3, .ref u4, .ref u5, .ref u6, .int (nI kn), .ref u7, .int (bB ik), .ref u8, .int (nI ty), .ref u9, .int (nI ta), .int (bB iw), .ref u10, .ref u11])), (u1, .inl (tyI D, 48, .inl (nf tM))), (u2, .inl (tyI D, 48, .inl (nf tN))), (u3, .inl (tyI D, 48, .inl (nf tS))), (u4, .inl (tyI D, 6912, .inl E_))]) O (kX9_wave l D z (tM (j_ / 144)) ((j_ % 144) / 12) (by first | assumption | omega) (by first | assumption | omega)) gX9_findWays_X9_wave rfl rfl rfl 2 (by decide +kernel) (by decide) (by decide) [] [0, 1, 2, 3, 4] rfl (by decide) rfl (by decide) (by decide) rfl rfl (Nat.le_of_ble_eq_true rfl) dX9_findWays_203 (fun r_9 w_10 hp => ?_)
              obtain ⟨rfl, rfl⟩ := hp
              refine g_eq (st' := [.int (hW (tM (j_ / 144)) ((j_ % 144) / 12)), .int (hW (tN (j_ / 144)) (j_ % 12))]) (ws' := [(u0, .inr (9, [.ref u1, .ref u2, .ref u3, .ref u4, .ref u5, .ref u6, .int (nI kn), .ref u7, .int (bB ik), .ref u8, .int (nI ty), .ref u9, .int (nI ta), .int (bB iw), .ref u10, .ref u11])), (u1, .inl (tyI D, 48, .inl (nf tM))), (u2, .inl (tyI D, 48, .inl (nf tN))), (u3, .inl (tyI D, 48, .inl (nf tS))), (u4, .inl (tyI D, 6912, .inl E_))]) rfl rfl rfl ?_
              refine g_imul O dX9_findWays_206 ?_
              refine g_istore (L' := [(0, .ref u0), (1, .int (nI (((fwA 712)).length))), (2, .int (nI j_)), (3, .int (nI (j_ / 144))), (4, .int (nI (j_ % 12))), (5, .int (nI ((j_ % 144) / 12))), (6, .int ((hW (tM (j_ / 144)) (j_ % 12)) * (hW (tN (j_ / 144)) ((j_ % 144) / 12)))), (7, .int ((hW (tN (j_ / 144)) (j_ % 12)) * (hW (tM (j_ / 144)) ((j_ % 144) / 12))))]) O dX9_findWays_207 (by decide) [1, 2, 3, 4, 5, 6, 7, 0] rfl ?_
              refine g_aload_n O dX9_findWays_209 0 rfl rfl ?_
              refine g_get O hiX9_findWays_X9 0 rfl rfl 3 (by decide) (by decide +kernel) rfl dX9_findWays_210 ?_
              refine g_iload_n O dX9_findWays_213 2 rfl rfl ?_
              refine g_aload_n O dX9_findWays_214 0 rfl rfl ?_
              refine g_get O hiX9_findWays_X9 0 rfl rfl 2 (by decide) (by decide +kernel) rfl dX9_findWays_215 ?_
              refine g_iload_n O dX9_findWays_218 3 rfl rfl ?_
              refine g_ialdN O 3 rfl (by omega) (by omega) dX9_findWays_219 ?_
              refine g_iconst (x := (nI 1)) O dX9_findWays_220 (by decide +kernel) ?_
              refine g_icmp_neN (tgt := 232) O (by omega) (by omega) dX9_findWays_221 (by decide) (fun c_11 => ?_) (fun c_11 => ?_)
              ·
                rw [if_pos (by omega)] at hsw
                refine g_iload O dX9_findWays_232 6 rfl ?_
                refine g_iload O dX9_findWays_234 7 rfl ?_
                refine g_iadd O dX9_findWays_236 ?_
                refine g_bipush (x := (nI 100)) O dX9_findWays_237 (by decide +kernel) ?_
                refine g_idiv O dX9_findWays_239 (by decide +kernel) ?_
                refine g_callS (As := [.int ((((hW (tM (j_ / 144)) (j_ % 12)) * (hW (tN (j_ / 144)) ((j_ % 144) / 12))) + ((hW (tN (j_ / 144)) (j_ % 12)) * (hW (tM (j_ / 144)) ((j_ % 144) / 12)))) / (nI 100))]) (wr := [(u0, .inr (9, [.ref u1, .ref u2, .ref u3, .ref u4, .ref u5, .ref u6, .int (nI kn), .ref u7, .int (bB ik), .ref u8, .int (nI ty), .ref u9, .int (nI ta), .int (bB iw), .ref u10, .ref u11])), (u1, .inl (tyI D, 48, .inl (nf tM))), (u2, .inl (tyI D, 48, .inl (nf tN))), (u3, .inl (tyI D, 48, .inl (nf tS))), (u4, .inl (tyI D, 6912, .inl E_))]) O (kX9_size l D z ((((hW (tM (j_ / 144)) (j_ % 12)) * (hW (tN (j_ / 144)) ((j_ % 144) / 12))) + ((hW (tN (j_ / 144)) (j_ % 12)) * (hW (tM (j_ / 144)) ((j_ % 144) / 12)))) / (nI 100)) ) gX9_findWays_X9_size rfl rfl rfl 1 (by decide +kernel) (by decide) (by decide) [] [0, 1, 2, 3, 4] rfl (by decide) rfl (by decide) (by decide) rfl rfl (Nat.le_of_ble_eq_true rfl) dX9_findWays_240 (fun r_12 w_13 hp => ?_)
                obtain ⟨rfl, rfl⟩ := hp
                refine g_eq (st' := [.int (ab ((((hW (tM (j_ / 144)) (j_ % 12)) * (hW (tN (j_ / 144)) ((j_ % 144) / 12))) + ((hW (tN (j_ / 144)) (j_ % 12)) * (hW (tM (j_ / 144)) ((j_ % 144) / 12)))) / (nI 100))), .int (nI j_), .ref u4]) (ws' := [(u0, .inr (9, [.ref u1, .ref u2, .ref u3, .ref u4, .ref u5, .ref u6, .int (nI kn), .ref u7, .int (bB ik), .ref u8, .int (nI ty), .ref u9, .int (nI ta), .int (bB iw), .ref u10, .ref u11])), (u1, .inl (tyI D, 48, .inl (nf tM))), (u2, .inl (tyI D, 48, .inl (nf tN))), (u3, .inl (tyI D, 48, .inl (nf tS))), (u4, .inl (tyI D, 6912, .inl E_))]) rfl rfl rfl ?_
                refine g_iastN (f' := (upd E_ j_ (ab ((((hW (tM (j_ / 144)) (j_ % 12)) * (hW (tN (j_ / 144)) ((j_ % 144) / 12))) + ((hW (tN (j_ / 144)) (j_ % 12)) * (hW (tM (j_ / 144)) ((j_ % 144) / 12)))) / (nI 100))))) (ws' := [(u0, .inr (9, [.ref u1, .ref u2, .ref u3, .ref u4, .ref u5, .ref u6, .int (nI kn), .ref u7, .int (bB ik), .ref u8, .int (nI ty), .ref u9, .int (nI ta), .int (bB iw), .ref u10, .ref u11])), (u1, .inl (tyI D, 48, .inl (nf tM))), (u2, .inl (tyI D, 48, .inl (nf tN))), (u3, .inl (tyI D, 48, .inl (nf tS))), (u4, .inl (tyI D, 6912, .inl (upd E_ j_ (ab ((((hW (tM (j_ / 144)) (j_ % 12)) * (hW (tN (j_ / 144)) ((j_ % 144) / 12))) + ((hW (tN (j_ / 144)) (j_ % 12)) * (hW (tM (j_ / 144)) ((j_ % 144) / 12)))) / (nI 100))))))]) O 4 rfl (by omega) (by omega) dX9_findWays_243 rfl rfl ?_
                refine g_iincN (L' := [(0, .ref u0), (1, .int (nI (((fwA 712)).length))), (2, .int (nI (j_ + 1))), (3, .int (nI (j_ / 144))), (4, .int (nI (j_ % 12))), (5, .int (nI ((j_ % 144) / 12))), (6, .int ((hW (tM (j_ / 144)) (j_ % 12)) * (hW (tN (j_ / 144)) ((j_ % 144) / 12)))), (7, .int ((hW (tN (j_ / 144)) (j_ % 12)) * (hW (tM (j_ / 144)) ((j_ % 144) / 12))))]) O dX9_findWays_244 2 rfl (by decide) [1, 2, 0, 3, 4, 5, 6, 7] rfl ?_
                refine g_goto (tgt := 130) O dX9_findWays_247 (by decide) ?_
                refine g_locals (L' := [(0, .ref u0), (1, .int (nI (((fwA 712)).length))), (2, .int (nI (j_ + 1)))]) [0, 1, 2] rfl ?_
                exact ih130 (j_ + 1) _ (by first | assumption | omega | rfl) (fun i hi => by by_cases h : i = j_; (subst h; rw [pk_us]; exact hsw.symm); (rw [pk_un h]; exact hE i (by omega))) (by omega)
              ·
                rw [if_neg (by omega)] at hsw
                refine g_iload O dX9_findWays_224 6 rfl ?_
                refine g_iload O dX9_findWays_226 7 rfl ?_
                refine g_isub O dX9_findWays_228 ?_
                refine g_goto (tgt := 237) O dX9_findWays_229 (by decide) ?_
                refine g_bipush (x := (nI 100)) O dX9_findWays_237 (by decide +kernel) ?_
                refine g_idiv O dX9_findWays_239 (by decide +kernel) ?_
                refine g_callS (As := [.int ((((hW (tM (j_ / 144)) (j_ % 12)) * (hW (tN (j_ / 144)) ((j_ % 144) / 12))) - ((hW (tN (j_ / 144)) (j_ % 12)) * (hW (tM (j_ / 144)) ((j_ % 144) / 12)))) / (nI 100))]) (wr := [(u0, .inr (9, [.ref u1, .ref u2, .ref u3, .ref u4, .ref u5, .ref u6, .int (nI kn), .ref u7, .int (bB ik), .ref u8, .int (nI ty), .ref u9, .int (nI ta), .int (bB iw), .ref u10, .ref u11])), (u1, .inl (tyI D, 48, .inl (nf tM))), (u2, .inl (tyI D, 48, .inl (nf tN))), (u3, .inl (tyI D, 48, .inl (nf tS))), (u4, .inl (tyI D, 6912, .inl E_))]) O (kX9_size l D z ((((hW (tM (j_ / 144)) (j_ % 12)) * (hW (tN (j_ / 144)) ((j_ % 144) / 12))) - ((hW (tN (j_ / 144)) (j_ % 12)) * (hW (tM (j_ / 144)) ((j_ % 144) / 12)))) / (nI 100)) ) gX9_findWays_X9_size rfl rfl rfl 1 (by decide +kernel) (by decide) (by decide) [] [0, 1, 2, 3, 4] rfl (by decide) rfl (by decide) (by decide) rfl rfl (Nat.le_of_ble_eq_true rfl) dX9_findWays_240 (fun r_14 w_15 hp => ?_)
                obtain ⟨rfl, rfl⟩ := hp
                refine g_eq (st' := [.int (ab ((((hW (tM (j_ / 144)) (j_ % 12)) * (hW (tN (j_ / 144)) ((j_ % 144) / 12))) - ((hW (tN (j_ / 144)) (j_ % 12)) * (hW (tM (j_ / 144)) ((j_ % 144) / 12)))) / (nI 100))), .int (nI j_), .ref u4]) (ws' := [(u0, .inr (9, [.ref u1, .ref u2, .ref u3, .ref u4, .ref u5, .ref u6, .int (nI kn), .ref u7, .int (bB ik), .ref u8, .int (nI ty), .ref u9, .int (nI ta), .int (bB iw), .ref u10, .ref u11])), (u1, .inl (tyI D, 48, .inl (nf tM))), (u2, .inl (tyI D, 48, .inl (nf tN))), (u3, .inl (tyI D, 48, .inl (nf tS))), (u4, .inl (tyI D, 6912, .inl E_))]) rfl rfl rfl ?_
                refine g_iastN (f' := (upd E_ j_ (ab ((((hW (tM (j_ / 144)) (j_ % 12)) * (hW (tN (j_ / 144)) ((j_ % 144) / 12))) - ((hW (tN (j_ / 144)) (j_ % 12)) * (hW (tM (j_ / 144)) ((j_ % 144) / 12)))) / (nI 100))))) (ws' := [(u0, .inr (9, [.ref u1, .ref u2, .ref u3, .ref u4, .ref u5, .ref u6, .int (nI kn), .ref u7, .int (bB ik), .ref u8, .int (nI ty), .ref u9, .int (nI ta), .int (bB iw), .ref u10, .ref u11])), (u1, .inl (tyI D, 48, .inl (nf tM))), (u2, .inl (tyI D, 48, .inl (nf tN))), (u3, .inl (tyI D, 48, .inl (nf tS))), (u4, .inl (tyI D, 6912, .inl (upd E_ j_ (ab ((((hW (tM (j_ / 144)) (j_ % 12)) * (hW (tN (j_ / 144)) ((j_ % 144) / 12))) - ((hW (tN (j_ / 144)) (j_ % 12)) * (hW (tM (j_ / 144)) ((j_ % 144) / 12)))) / (nI 100))))))]) O 4 rfl (by omega) (by omega) dX9_findWays_243 rfl rfl ?_
                refine g_iincN (L' := [(0, .ref u0), (1, .int (nI (((fwA 712)).length))), (2, .int (nI (j_ + 1))), (3, .int (nI (j_ / 144))), (4, .int (nI (j_ % 12))), (5, .int (nI ((j_ % 144) / 12))), (6, .int ((hW (tM (j_ / 144)) (j_ % 12)) * (hW (tN (j_ / 144)) ((j_ % 144) / 12)))), (7, .int ((hW (tN (j_ / 144)) (j_ % 12)) * (hW (tM (j_ / 144)) ((j_ % 144) / 12))))]) O dX9_findWays_244 2 rfl (by decide) [1, 2, 0, 3, 4, 5, 6, 7] rfl ?_
                refine g_goto (tgt := 130) O dX9_findWays_247 (by decide) ?_
                refine g_locals (L' := [(0, .ref u0), (1, .int (nI (((fwA 712)).length))), (2, .int (nI (j_ + 1)))]) [0, 1, 2] rfl ?_
                exact ih130 (j_ + 1) _ (by first | assumption | omega | rfl) (fun i hi => by by_cases h : i = j_; (subst h; rw [pk_us]; exact hsw.symm); (rw [pk_un h]; exact hE i (by omega))) (by omega)
        exact J130 _ 0 (nf (fun _ => 0)) (Nat.zero_le _) (fun i hi => absurd hi (Nat.not_lt_zero _)) (Nat.lt_succ_self _)
      ·
        refine g_iconst (x := (nI 0)) O dX9_findWays_12 (by decide +kernel) ?_
        refine g_istore_n (L' := [(0, .ref u0), (1, .int (nI (((fwA i_)).length))), (2, .int (nI (10 + i_))), (3, .int (nI 0))]) O dX9_findWays_13 rfl (by decide) [1, 2, 3, 0] rfl ?_
        have J14 : ∀ (n_ : Nat), ∀ (a_ : Nat) (A_ : WL) (ha : a_ ≤ 7) (hA : A_ = fwM (10 + i_) a_ (fwA i_)), 7 - a_ < n_ → G X 0 0 14 [(0, .ref u0), (1, .int (nI ((A_).length))), (2, .int (nI (10 + i_))), (3, .int (nI a_))] [] [(u0, .inr (9, [.ref u1, .ref u2, .ref u3, .ref u4, .ref u5, .ref u6, .int (nI kn), .ref u7, .int (bB ik), .ref u8, .int (nI ty), .ref u9, .int (nI ta), .int (bB iw), .ref u10, .ref u11])), (u1, .inl (tyI D, 48, .inl (nf (la1 A_)))), (u2, .inl (tyI D, 48, .inl (nf (la2 A_)))), (u3, .inl (tyI D, 48, .inl (nf (la3 A_)))), (u4, .inl (tyI D, 6912, .inl (nf (fun _ => 0))))] := by
          intro n_
          induction n_ with
          | zero => intro a_ A_ ha hA hm_; exact absurd hm_ (Nat.not_lt_zero _)
          | succ n_ ih14 =>
            intro a_ A_ ha hA hm_
            refine g_iload_n O dX9_findWays_14 3 rfl rfl ?_
            refine g_bipush (x := (nI 6)) O dX9_findWays_15 (by decide +kernel) ?_
            refine g_icmp_gtN (tgt := 122) O (by omega) (by omega) dX9_findWays_17 (by decide) (fun c_16 => ?_) (fun c_16 => ?_)
            ·
              obtain rfl : a_ = 7 := by omega
              subst hA
              refine g_eq (ws' := [(u0, .inr (9, [.ref u1, .ref u2, .ref u3, .ref u4, .ref u5, .ref u6, .int (nI kn), .ref u7, .int (bB ik), .ref u8, .int (nI ty), .ref u9, .int (nI ta), .int (bB iw), .ref u10, .ref u11])), (u1, .inl (tyI D, 48, .inl (nf (la1 (fwA (i_ + 1)))))), (u2, .inl (tyI D, 48, .inl (nf (la2 (fwA (i_ + 1)))))), (u3, .inl (tyI D, 48, .inl (nf (la3 (fwA (i_ + 1)))))), (u4, .inl (tyI D, 6912, .inl (nf (fun _ => 0))))]) (L' := [(0, .ref u0), (1, .int (nI (((fwA (i_ + 1))).length))), (2, .int (nI (10 + i_))), (3, .int (nI 7))]) rfl rfl rfl ?_
              refine g_iincN (L' := [(0, .ref u0), (1, .int (nI (((fwA (i_ + 1))).length))), (2, .int (nI (10 + i_ + 1))), (3, .int (nI 7))]) O dX9_findWays_122 2 rfl (by decide) [1, 2, 0, 3] rfl ?_
              refine g_goto (tgt := 5) O dX9_findWays_125 (by decide) ?_
              refine g_locals (L' := [(0, .ref u0), (1, .int (nI (((fwA (i_ + 1))).length))), (2, .int (nI (10 + i_ + 1)))]) [0, 1, 2] rfl ?_
              exact ih_ (i_ + 1) (by first | assumption | omega | rfl) (by omega)
            ·
              refine g_iload_n O dX9_findWays_20 3 rfl rfl ?_
              refine g_istore (L' := [(0, .ref u0), (1, .int (nI ((A_).length))), (2, .int (nI (10 + i_))), (3, .int (nI a_)), (4, .int (nI a_))]) O dX9_findWays_21 (by decide) [1, 2, 3, 4, 0] rfl ?_
              have J23 : ∀ (n_ : Nat), ∀ (k_ : Nat) (C_ : WL) (hk : a_ + k_ ≤ 7) (hC : C_ = fwN (10 + i_) a_ k_ A_) (hl48 : C_.length ≤ 48), 7 - (a_ + k_) < n_ → G X 0 0 23 [(0, .ref u0), (1, .int (nI ((C_).length))), (2, .int (nI (10 + i_))), (3, .int (nI a_)), (4, .int (nI (a_ + k_)))] [] [(u0, .inr (9, [.ref u1, .ref u2, .ref u3, .ref u4, .ref u5, .ref u6, .int (nI kn), .ref u7, .int (bB ik), .ref u8, .int (nI ty), .ref u9, .int (nI ta), .int (bB iw), .ref u10, .ref u11])), (u1, .inl (tyI D, 48, .inl (nf (la1 C_)))), (u2, .inl (tyI D, 48, .inl (nf (la2 C_)))), (u3, .inl (tyI D, 48, .inl (nf (la3 C_)))), (u4, .inl (tyI D, 6912, .inl (nf (fun _ => 0))))] := by
                intro n_
                induction n_ with
                | zero => intro k_ C_ hk hC hl48 hm_; exact absurd hm_ (Nat.not_lt_zero _)
                | succ n_ ih23 =>
                  intro k_ C_ hk hC hl48 hm_
                  refine g_iload O dX9_findWays_23 4 rfl ?_
                  refine g_bipush (x := (nI 6)) O dX9_findWays_25 (by decide +kernel) ?_
                  refine g_icmp_gtN (tgt := 116) O (by omega) (by omega) dX9_findWays_27 (by decide) (fun c_17 => ?_) (fun c_17 => ?_)
                  ·
                    refine g_iincN (L' := [(0, .ref u0), (1, .int (nI ((C_).length))), (2, .int (nI (10 + i_))), (3, .int (nI (a_ + 1))), (4, .int (nI (a_ + k_)))]) O dX9_findWays_116 3 rfl (by decide) [1, 2, 3, 0, 4] rfl ?_
                    refine g_goto (tgt := 14) O dX9_findWays_119 (by decide) ?_
                    refine g_locals (L' := [(0, .ref u0), (1, .int (nI ((C_).length))), (2, .int (nI (10 + i_))), (3, .int (nI (a_ + 1)))]) [0, 1, 2, 3] rfl ?_
                    exact ih14 (a_ + 1) C_ (by first | assumption | omega | rfl) (by rw [hC, hA]; simp only [fwM]; rw [show k_ = 7 - a_ by omega]) (by omega)
                  ·
                    have hmm : a_ * a_ ≤ 36 := by have h := Nat.mul_le_mul (show a_ ≤ 6 by omega) (show a_ ≤ 6 by omega); exact h
                    have hnn : (a_ + k_) * (a_ + k_) ≤ 36 := by have h := Nat.mul_le_mul (show (a_ + k_) ≤ 6 by omega) (show (a_ + k_) ≤ 6 by omega); exact h
                    refine g_iload_n O dX9_findWays_30 2 rfl rfl ?_
                    refine g_bipush (x := (nI 10)) O dX9_findWays_31 (by decide +kernel) ?_
                    refine g_iremN O (by omega) (by omega) (by omega) dX9_findWays_33 ?_
                    refine g_istore (L' := [(0, .ref u0), (1, .int (nI ((C_).length))), (2, .int (nI (10 + i_))), (3, .int (nI a_)), (4, .int (nI (a_ + k_))), (5, .int (nI ((10 + i_) % 10)))]) O dX9_findWays_34 (by decide) [1, 2, 3, 4, 5, 0] rfl ?_
                    refine g_bipush (x := (nI 10)) O dX9_findWays_36 (by decide +kernel) ?_
                    refine g_iload_n O dX9_findWays_38 3 rfl rfl ?_
                    refine g_iload_n O dX9_findWays_39 3 rfl rfl ?_
                    refine g_imulN O dX9_findWays_40 ?_
                    refine g_iload O dX9_findWays_41 4 rfl ?_
                    refine g_iload O dX9_findWays_43 4 rfl ?_
                    refine g_imulN O dX9_findWays_45 ?_
                    refine g_iaddN O dX9_findWays_46 ?_
                    refine g_imulN O dX9_findWays_47 ?_
                    refine g_iload O dX9_findWays_48 5 rfl ?_
                    refine g_iaddN O dX9_findWays_50 ?_
                    refine g_iload_n O dX9_findWays_51 2 rfl rfl ?_
                    refine g_icmp_neN (tgt := 76) O (by omega) (by omega) dX9_findWays_52 (by decide) (fun c_18 => ?_) (fun c_18 => ?_)
                    ·
                      refine g_iconst (x := (nI 0)) O dX9_findWays_76 (by decide +kernel) ?_
                      refine g_istore (L' := [(0, .ref u0), (1, .int (nI ((C_).length))), (2, .int (nI (10 + i_))), (3, .int (nI a_)), (4, .int (nI (a_ + k_))), (5, .int (nI ((10 + i_) % 10))), (6, .int (nI 0))]) O dX9_findWays_77 (by decide) [1, 2, 3, 4, 5, 6, 0] rfl ?_
                      refine g_iload O dX9_findWays_79 6 rfl ?_
                      refine g_if_eqN (tgt := 110) O (by omega) dX9_findWays_81 (by decide) (fun c_19 => ?_) (fun c_19 => absurd c_19 (by decide))
                      have hq : fwN (10 + i_) a_ (k_ + 1) A_ = C_ := by simp only [fwN]; rw [← hC]; simp only [addF]; rw [if_neg (by omega)]
                      refine g_iincN (L' := [(0, .ref u0), (1, .int (nI ((C_).length))), (2, .int (nI (10 + i_))), (3, .int (nI a_)), (4, .int (nI (a_ + k_ + 1))), (5, .int (nI ((10 + i_) % 10))), (6, .int (nI 0))]) O dX9_findWays_110 4 rfl (by decide) [1, 2, 3, 4, 0, 5, 6] rfl ?_
                      refine g_goto (tgt := 23) O dX9_findWays_113 (by decide) ?_
                      refine g_locals (L' := [(0, .ref u0), (1, .int (nI ((C_).length))), (2, .int (nI (10 + i_))), (3, .int (nI a_)), (4, .int (nI (a_ + k_ + 1)))]) [0, 1, 2, 3, 4] rfl ?_
                      exact ih23 (k_ + 1) C_ (by first | assumption | omega | rfl) (hq.symm) (by first | assumption | (simp; omega)) (by omega)
                    ·
                      refine g_iload O dX9_findWays_55 5 rfl ?_
                      refine g_iconst (x := (nI 2)) O dX9_findWays_57 (by decide +kernel) ?_
                      refine g_icmp_geN (tgt := 76) O (by omega) (by omega) dX9_findWays_58 (by decide) (fun c_20 => ?_) (fun c_20 => ?_)
                      ·
                        refine g_iconst (x := (nI 0)) O dX9_findWays_76 (by decide +kernel) ?_
                        refine g_istore (L' := [(0, .ref u0), (1, .int (nI ((C_).length))), (2, .int (nI (10 + i_))), (3, .int (nI a_)), (4, .int (nI (a_ + k_))), (5, .int (nI ((10 + i_) % 10))), (6, .int (nI 0))]) O dX9_findWays_77 (by decide) [1, 2, 3, 4, 5, 6, 0] rfl ?_
                        refine g_iload O dX9_findWays_79 6 rfl ?_
                        refine g_if_eqN (tgt := 110) O (by omega) dX9_findWays_81 (by decide) (fun c_21 => ?_) (fun c_21 => absurd c_21 (by decide))
                        have hq : fwN (10 + i_) a_ (k_ + 1) A_ = C_ := by simp only [fwN]; rw [← hC]; simp only [addF]; rw [if_neg (by omega)]
                        refine g_iincN (L' := [(0, .ref u0), (1, .int (nI ((C_).length))), (2, .int (nI (10 + i_))), (3, .int (nI a_)), (4, .int (nI (a_ + k_ + 1))), (5, .int (nI ((10 + i_) % 10))), (6, .int (nI 0))]) O dX9_findWays_110 4 rfl (by decide) [1, 2, 3, 4, 0, 5, 6] rfl ?_
                        refine g_goto (tgt := 23) O dX9_findWays_113 (by decide) ?_
                        refine g_locals (L' := [(0, .ref u0), (1, .int (nI ((C_).length))), (2, .int (nI (10 + i_))), (3, .int (nI a_)), (4, .int (nI (a_ + k_ + 1)))]) [0, 1, 2, 3, 4] rfl ?_
                        exact ih23 (k_ + 1) C_ (by first | assumption | omega | rfl) (hq.symm) (by first | assumption | (simp; omega)) (by omega)
                      ·
                        refine g_iload_n O dX9_findWays_61 3 rfl rfl ?_
                        refine g_iload O dX9_findWays_62 4 rfl ?_
                        refine g_icmp_ltN (tgt := 72) O (by omega) (by omega) dX9_findWays_64 (by decide) (fun c_22 => ?_) (fun c_22 => ?_)
                        ·
                          refine g_iconst (x := (nI 1)) O dX9_findWays_72 (by decide +kernel) ?_
                          refine g_goto (tgt := 77) O dX9_findWays_73 (by decide) ?_
                          refine g_istore (L' := [(0, .ref u0), (1, .int (nI ((C_).length))), (2, .int (nI (10 + i_))), (3, .int (nI a_)), (4, .int (nI (a_ + k_))), (5, .int (nI ((10 + i_) % 10))), (6, .int (nI 1))]) O dX9_findWays_77 (by decide) [1, 2, 3, 4, 5, 6, 0] rfl ?_
                          refine g_iload O dX9_findWays_79 6 rfl ?_
                          refine g_if_eqN (tgt := 110) O (by omega) dX9_findWays_81 (by decide) (fun c_23 => absurd c_23 (by decide)) (fun c_23 => ?_)
                          have hcd : 10 * (a_ * a_ + (a_ + k_) * (a_ + k_)) + (10 + i_) % 10 = 10 + i_ ∧ (10 + i_) % 10 < 2 ∧ (a_ < a_ + k_ ∨ (10 + i_) % 10 = 0) := by omega
                          have hq : fwN (10 + i_) a_ (k_ + 1) A_ = C_ ++ [(a_, a_ + k_, (10 + i_) % 10)] := by simp only [fwN]; rw [← hC]; simp only [addF]; rw [if_pos hcd]
                          have hroom : C_.length < 48 := by have h1 := fw_le (i := i_) (a := a_) (k := k_ + 1) (by omega) (by omega) (by omega); rw [← hA, hq] at h1; simp at h1; omega
                          refine g_aload_n O dX9_findWays_84 0 rfl rfl ?_
                          refine g_get O hiX9_findWays_X9 0 rfl rfl 0 (by decide) (by decide +kernel) rfl dX9_findWays_85 ?_
                          refine g_iload_n O dX9_findWays_88 1 rfl rfl ?_
                          refine g_iload_n O dX9_findWays_89 3 rfl rfl ?_
                          refine g_iastN (f' := (nf (upf (la1 C_) ((C_).length) a_))) (ws' := [(u0, .inr (9, [.ref u1, .ref u2, .ref u3, .ref u4, .ref u5, .ref u6, .int (nI kn), .ref u7, .int (bB ik), .ref u8, .int (nI ty), .ref u9, .int (nI ta), .int (bB iw), .ref u10, .ref u11])), (u1, .inl (tyI D, 48, .inl (nf (upf (la1 C_) ((C_).length) a_)))), (u2, .inl (tyI D, 48, .inl (nf (la2 C_)))), (u3, .inl (tyI D, 48, .inl (nf (la3 C_)))), (u4, .inl (tyI D, 6912, .inl (nf (fun _ => 0))))]) O 1 rfl (by omega) (by omega) dX9_findWays_90 (nf_upd _ _ _) rfl ?_
                          refine g_aload_n O dX9_findWays_91 0 rfl rfl ?_
                          refine g_get O hiX9_findWays_X9 0 rfl rfl 1 (by decide) (by decide +kernel) rfl dX9_findWays_92 ?_
                          refine g_iload_n O dX9_findWays_95 1 rfl rfl ?_
                          refine g_iload O dX9_findWays_96 4 rfl ?_
                          refine g_iastN (f' := (nf (upf (la2 C_) ((C_).length) (a_ + k_)))) (ws' := [(u0, .inr (9, [.ref u1, .ref u2, .ref u3, .ref u4, .ref u5, .ref u6, .int (nI kn), .ref u7, .int (bB ik), .ref u8, .int (nI ty), .ref u9, .int (nI ta), .int (bB iw), .ref u10, .ref u11])), (u1, .inl (tyI D, 48, .inl (nf (upf (la1 C_) ((C_).length) a_)))), (u2, .inl (tyI D, 48, .inl (nf (upf (la2 C_) ((C_).length) (a_ + k_))))), (u3, .inl (tyI D, 48, .inl (nf (la3 C_)))), (u4, .inl (tyI D, 6912, .inl (nf (fun _ => 0))))]) O 2 rfl (by omega) (by omega) dX9_findWays_98 (nf_upd _ _ _) rfl ?_
                          refine g_aload_n O dX9_findWays_99 0 rfl rfl ?_
                          refine g_get O hiX9_findWays_X9 0 rfl rfl 2 (by decide) (by decide +kernel) rfl dX9_findWays_100 ?_
                          refine g_iload_n O dX9_findWays_103 1 rfl rfl ?_
                          refine g_iload O dX9_findWays_104 5 rfl ?_
                          refine g_iastN (f' := (nf (upf (la3 C_) ((C_).length) ((10 + i_) % 10)))) (ws' := [(u0, .inr (9, [.ref u1, .ref u2, .ref u3, .ref u4, .ref u5, .ref u6, .int (nI kn), .ref u7, .int (bB ik), .ref u8, .int (nI ty), .ref u9, .int (nI ta), .int (bB iw), .ref u10, .ref u11])), (u1, .inl (tyI D, 48, .inl (nf (upf (la1 C_) ((C_).length) a_)))), (u2, .inl (tyI D, 48, .inl (nf (upf (la2 C_) ((C_).length) (a_ + k_))))), (u3, .inl (tyI D, 48, .inl (nf (upf (la3 C_) ((C_).length) ((10 + i_) % 10))))), (u4, .inl (tyI D, 6912, .inl (nf (fun _ => 0))))]) O 3 rfl (by omega) (by omega) dX9_findWays_106 (nf_upd _ _ _) rfl ?_
                          refine g_iincN (L' := [(0, .ref u0), (1, .int (nI ((C_).length + 1))), (2, .int (nI (10 + i_))), (3, .int (nI a_)), (4, .int (nI (a_ + k_))), (5, .int (nI ((10 + i_) % 10))), (6, .int (nI 1))]) O dX9_findWays_107 1 rfl (by decide) [1, 0, 2, 3, 4, 5, 6] rfl ?_
                          refine g_eq (ws' := [(u0, .inr (9, [.ref u1, .ref u2, .ref u3, .ref u4, .ref u5, .ref u6, .int (nI kn), .ref u7, .int (bB ik), .ref u8, .int (nI ty), .ref u9, .int (nI ta), .int (bB iw), .ref u10, .ref u11])), (u1, .inl (tyI D, 48, .inl (nf (la1 (C_ ++ [(a_, a_ + k_, (10 + i_) % 10)]))))), (u2, .inl (tyI D, 48, .inl (nf (la2 (C_ ++ [(a_, a_ + k_, (10 + i_) % 10)]))))), (u3, .inl (tyI D, 48, .inl (nf (la3 (C_ ++ [(a_, a_ + k_, (10 + i_) % 10)]))))), (u4, .inl (tyI D, 6912, .inl (nf (fun _ => 0))))]) (L' := [(0, .ref u0), (1, .int (nI (((C_ ++ [(a_, a_ + k_, (10 + i_) % 10)])).length))), (2, .int (nI (10 + i_))), (3, .int (nI a_)), (4, .int (nI (a_ + k_))), (5, .int (nI ((10 + i_) % 10))), (6, .int (nI 1))]) rfl (by simp) (by rw [la1_s C_ a_ (a_ + k_) ((10 + i_) % 10), la2_s C_ a_ (a_ + k_) ((10 + i_) % 10), la3_s C_ a_ (a_ + k_) ((10 + i_) % 10)]) ?_
                          refine g_iincN (L' := [(0, .ref u0), (1, .int (nI (((C_ ++ [(a_, a_ + k_, (10 + i_) % 10)])).length))), (2, .int (nI (10 + i_))), (3, .int (nI a_)), (4, .int (nI (a_ + k_ + 1))), (5, .int (nI ((10 + i_) % 10))), (6, .int (nI 1))]) O dX9_findWays_110 4 rfl (by decide) [1, 2, 3, 4, 0, 5, 6] rfl ?_
                          refine g_goto (tgt := 23) O dX9_findWays_113 (by decide) ?_
                          refine g_locals (L' := [(0, .ref u0), (1, .int (nI (((C_ ++ [(a_, a_ + k_, (10 + i_) % 10)])).length))), (2, .int (nI (10 + i_))), (3, .int (nI a_)), (4, .int (nI (a_ + k_ + 1)))]) [0, 1, 2, 3, 4] rfl ?_
                          exact ih23 (k_ + 1) (C_ ++ [(a_, a_ + k_, (10 + i_) % 10)]) (by first | assumption | omega | rfl) (hq.symm) (by first | assumption | (simp; omega)) (by omega)
                        ·
                          refine g_iload O dX9_findWays_67 5 rfl ?_
                          refine g_if_neN (tgt := 76) O (by omega) dX9_findWays_69 (by decide) (fun c_24 => ?_) (fun c_24 => ?_)
                          ·
                            refine g_iconst (x := (nI 0)) O dX9_findWays_76 (by decide +kernel) ?_
                            refine g_istore (L' := [(0, .ref u0), (1, .int (nI ((C_).length))), (2, .int (nI (10 + i_))), (3, .int (nI a_)), (4, .int (nI (a_ + k_))), (5, .int (nI ((10 + i_) % 10))), (6, .int (nI 0))]) O dX9_findWays_77 (by decide) [1, 2, 3, 4, 5, 6, 0] rfl ?_
                            refine g_iload O dX9_findWays_79 6 rfl ?_
                            refine g_if_eqN (tgt := 110) O (by omega) dX9_findWays_81 (by decide) (fun c_25 => ?_) (fun c_25 => absurd c_25 (by decide))
                            have hq : fwN (10 + i_) a_ (k_ + 1) A_ = C_ := by simp only [fwN]; rw [← hC]; simp only [addF]; rw [if_neg (by omega)]
                            refine g_iincN (L' := [(0, .ref u0), (1, .int (nI ((C_).length))), (2, .int (nI (10 + i_))), (3, .int (nI a_)), (4, .int (nI (a_ + k_ + 1))), (5, .int (nI ((10 + i_) % 10))), (6, .int (nI 0))]) O dX9_findWays_110 4 rfl (by decide) [1, 2, 3, 4, 0, 5, 6] rfl ?_
                            refine g_goto (tgt := 23) O dX9_findWays_113 (by decide) ?_
                            refine g_locals (L' := [(0, .ref u0), (1, .int (nI ((C_).length))), (2, .int (nI (10 + i_))), (3, .int (nI a_)), (4, .int (nI (a_ + k_ + 1)))]) [0, 1, 2, 3, 4] rfl ?_
                            exact ih23 (k_ + 1) C_ (by first | assumption | omega | rfl) (hq.symm) (by first | assumption | (simp; omega)) (by omega)
                          ·
                            refine g_iconst (x := (nI 1)) O dX9_findWays_72 (by decide +kernel) ?_
                            refine g_goto (tgt := 77) O dX9_findWays_73 (by decide) ?_
                            refine g_istore (L' := [(0, .ref u0), (1, .int (nI ((C_).length))), (2, .int (nI (10 + i_))), (3, .int (nI a_)), (4, .int (nI (a_ + k_))), (5, .int (nI ((10 + i_) % 10))), (6, .int (nI 1))]) O dX9_findWays_77 (by decide) [1, 2, 3, 4, 5, 6, 0] rfl ?_
                            refine g_iload O dX9_findWays_79 6 rfl ?_
                            refine g_if_eqN (tgt := 110) O (by omega) dX9_findWays_81 (by decide) (fun c_26 => absurd c_26 (by decide)) (fun c_26 => ?_)
                            have hcd : 10 * (a_ * a_ + (a_ + k_) * (a_ + k_)) + (10 + i_) % 10 = 10 + i_ ∧ (10 + i_) % 10 < 2 ∧ (a_ < a_ + k_ ∨ (10 + i_) % 10 = 0) := by omega
                            have hq : fwN (10 + i_) a_ (k_ + 1) A_ = C_ ++ [(a_, a_ + k_, (10 + i_) % 10)] := by simp only [fwN]; rw [← hC]; simp only [addF]; rw [if_pos hcd]
                            have hroom : C_.length < 48 := by have h1 := fw_le (i := i_) (a := a_) (k := k_ + 1) (by omega) (by omega) (by omega); rw [← hA, hq] at h1; simp at h1; omega
                            refine g_aload_n O dX9_findWays_84 0 rfl rfl ?_
                            refine g_get O hiX9_findWays_X9 0 rfl rfl 0 (by decide) (by decide +kernel) rfl dX9_findWays_85 ?_
                            refine g_iload_n O dX9_findWays_88 1 rfl rfl ?_
                            refine g_iload_n O dX9_findWays_89 3 rfl rfl ?_
                            refine g_iastN (f' := (nf (upf (la1 C_) ((C_).length) a_))) (ws' := [(u0, .inr (9, [.ref u1, .ref u2, .ref u3, .ref u4, .ref u5, .ref u6, .int (nI kn), .ref u7, .int (bB ik), .ref u8, .int (nI ty), .ref u9, .int (nI ta), .int (bB iw), .ref u10, .ref u11])), (u1, .inl (tyI D, 48, .inl (nf (upf (la1 C_) ((C_).length) a_)))), (u2, .inl (tyI D, 48, .inl (nf (la2 C_)))), (u3, .inl (tyI D, 48, .inl (nf (la3 C_)))), (u4, .inl (tyI D, 6912, .inl (nf (fun _ => 0))))]) O 1 rfl (by omega) (by omega) dX9_findWays_90 (nf_upd _ _ _) rfl ?_
                            refine g_aload_n O dX9_findWays_91 0 rfl rfl ?_
                            refine g_get O hiX9_findWays_X9 0 rfl rfl 1 (by decide) (by decide +kernel) rfl dX9_findWays_92 ?_
                            refine g_iload_n O dX9_findWays_95 1 rfl rfl ?_
                            refine g_iload O dX9_findWays_96 4 rfl ?_
                            refine g_iastN (f' := (nf (upf (la2 C_) ((C_).length) (a_ + k_)))) (ws' := [(u0, .inr (9, [.ref u1, .ref u2, .ref u3, .ref u4, .ref u5, .ref u6, .int (nI kn), .ref u7, .int (bB ik), .ref u8, .int (nI ty), .ref u9, .int (nI ta), .int (bB iw), .ref u10, .ref u11])), (u1, .inl (tyI D, 48, .inl (nf (upf (la1 C_) ((C_).length) a_)))), (u2, .inl (tyI D, 48, .inl (nf (upf (la2 C_) ((C_).length) (a_ + k_))))), (u3, .inl (tyI D, 48, .inl (nf (la3 C_)))), (u4, .inl (tyI D, 6912, .inl (nf (fun _ => 0))))]) O 2 rfl (by omega) (by omega) dX9_findWays_98 (nf_upd _ _ _) rfl ?_
                            refine g_aload_n O dX9_findWays_99 0 rfl rfl ?_
                            refine g_get O hiX9_findWays_X9 0 rfl rfl 2 (by decide) (by decide +kernel) rfl dX9_findWays_100 ?_
                            refine g_iload_n O dX9_findWays_103 1 rfl rfl ?_
                            refine g_iload O dX9_findWays_104 5 rfl ?_
                            refine g_iastN (f' := (nf (upf (la3 C_) ((C_).length) ((10 + i_) % 10)))) (ws' := [(u0, .inr (9, [.ref u1, .ref u2, .ref u3, .ref u4, .ref u5, .ref u6, .int (nI kn), .ref u7, .int (bB ik), .ref u8, .int (nI ty), .ref u9, .int (nI ta), .int (bB iw), .ref u10, .ref u11])), (u1, .inl (tyI D, 48, .inl (nf (upf (la1 C_) ((C_).length) a_)))), (u2, .inl (tyI D, 48, .inl (nf (upf (la2 C_) ((C_).length) (a_ + k_))))), (u3, .inl (tyI D, 48, .inl (nf (upf (la3 C_) ((C_).length) ((10 + i_) % 10))))), (u4, .inl (tyI D, 6912, .inl (nf (fun _ => 0))))]) O 3 rfl (by omega) (by omega) dX9_findWays_106 (nf_upd _ _ _) rfl ?_
                            refine g_iincN (L' := [(0, .ref u0), (1, .int (nI ((C_).length + 1))), (2, .int (nI (10 + i_))), (3, .int (nI a_)), (4, .int (nI (a_ + k_))), (5, .int (nI ((10 + i_) % 10))), (6, .int (nI 1))]) O dX9_findWays_107 1 rfl (by decide) [1, 0, 2, 3, 4, 5, 6] rfl ?_
                            refine g_eq (ws' := [(u0, .inr (9, [.ref u1, .ref u2, .ref u3, .ref u4, .ref u5, .ref u6, .int (nI kn), .ref u7, .int (bB ik), .ref u8, .int (nI ty), .ref u9, .int (nI ta), .int (bB iw), .ref u10, .ref u11])), (u1, .inl (tyI D, 48, .inl (nf (la1 (C_ ++ [(a_, a_ + k_, (10 + i_) % 10)]))))), (u2, .inl (tyI D, 48, .inl (nf (la2 (C_ ++ [(a_, a_ + k_, (10 + i_) % 10)]))))), (u3, .inl (tyI D, 48, .inl (nf (la3 (C_ ++ [(a_, a_ + k_, (10 + i_) % 10)]))))), (u4, .inl (tyI D, 6912, .inl (nf (fun _ => 0))))]) (L' := [(0, .ref u0), (1, .int (nI (((C_ ++ [(a_, a_ + k_, (10 + i_) % 10)])).length))), (2, .int (nI (10 + i_))), (3, .int (nI a_)), (4, .int (nI (a_ + k_))), (5, .int (nI ((10 + i_) % 10))), (6, .int (nI 1))]) rfl (by simp) (by rw [la1_s C_ a_ (a_ + k_) ((10 + i_) % 10), la2_s C_ a_ (a_ + k_) ((10 + i_) % 10), la3_s C_ a_ (a_ + k_) ((10 + i_) % 10)]) ?_
                            refine g_iincN (L' := [(0, .ref u0), (1, .int (nI (((C_ ++ [(a_, a_ + k_, (10 + i_) % 10)])).length))), (2, .int (nI (10 + i_))), (3, .int (nI a_)), (4, .int (nI (a_ + k_ + 1))), (5, .int (nI ((10 + i_) % 10))), (6, .int (nI 1))]) O dX9_findWays_110 4 rfl (by decide) [1, 2, 3, 4, 0, 5, 6] rfl ?_
                            refine g_goto (tgt := 23) O dX9_findWays_113 (by decide) ?_
                            refine g_locals (L' := [(0, .ref u0), (1, .int (nI (((C_ ++ [(a_, a_ + k_, (10 + i_) % 10)])).length))), (2, .int (nI (10 + i_))), (3, .int (nI a_)), (4, .int (nI (a_ + k_ + 1)))]) [0, 1, 2, 3, 4] rfl ?_
                            exact ih23 (k_ + 1) (C_ ++ [(a_, a_ + k_, (10 + i_) % 10)]) (by first | assumption | omega | rfl) (hq.symm) (by first | assumption | (simp; omega)) (by omega)
              exact J23 _ 0 A_ (by first | assumption | omega | rfl) (rfl) (by have h1 := fw_le (i := i_) (a := a_) (k := 0) (by omega) (by omega) (by omega); rw [hA]; exact h1) (Nat.lt_succ_self _)
        exact J14 _ 0 (fwA i_) (Nat.zero_le _) (rfl) (Nat.lt_succ_self _)
  exact J5 _ 0 (Nat.zero_le _) (Nat.lt_succ_self _)
