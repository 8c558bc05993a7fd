theorem hiX9_lines_X9 : ∀ w ∈ wsX90, w ∈ wsX9_lines := by intro w h; simp only [wsX9_lines, List.mem_append, List.mem_cons, h, or_true, true_or]
set_option maxHeartbeats 2000000 in
set_option maxRecDepth 100000 in
/-- how many lines -/
theorem kX9_lines (l : Launch) (D : va_G) (z : Nat × Nat × Nat) (u0 : Nat) (u1 : Nat) (u2 : Nat) (u3 : Nat) (u4 : Nat) (u5 : Nat) (u6 : Nat) (u7 : Nat) (u8 : Nat) (u9 : Nat) (u10 : Nat) (u11 : Nat) (kn : Nat) (ik : Bool) (ty : Nat) (ta : Nat) (iw : Bool) (M : Nat → Int32) (s : SV) (me : Nat → Bool) (rw_ : Nat → Nat) (w : Nat) (hw : w < 48) (hM : RM M s) : CM l yX9_lines wsX9_lines ({ frames := 3, cells := 0, slots := 0, locals := 69 } : Room) D z [.ref u0, .int (nI w)] [(u0, .inr (9, [.ref u1, .ref u2, .ref u3, .ref u4, .ref u5, .ref u6, .int (nI kn), .ref u7, .int (bB ik), .ref u8, .int (nI ty), .ref u9, .int (nI ta), .int (bB iw), .ref u10, .ref u11])), (u4, .inl (tyI D, 6912, .inl SWT)), (u5, .inl (tyI D, 208, .inl M)), (u10, .inl (tyZ D, 144, .inl (bf me))), (u11, .inl (tyI D, 144, .inl (nf rw_)))] (fun r_ w_ => ∃ (me9 : Nat → Bool), ∃ (rw9 : Nat → Nat), r_ = some (.int (nI ((lnF s w rw_ 0 144).2))) ∧ w_ = [(u0, .inr (9, [.ref u1, .ref u2, .ref u3, .ref u4, .ref u5, .ref u6, .int (nI kn), .ref u7, .int (bB ik), .ref u8, .int (nI ty), .ref u9, .int (nI ta), .int (bB iw), .ref u10, .ref u11])), (u4, .inl (tyI D, 6912, .inl SWT)), (u5, .inl (tyI D, 208, .inl M)), (u10, .inl (tyZ D, 144, .inl (bf me9))), (u11, .inl (tyI D, 144, .inl (nf rw9)))]) 0 0 := by
  refine CM_int (own := RX9) (cc := cX9_lines) (maxL := 4) (L0 := [(0, .ref u0), (1, .int (nI w))]) (by decide) rfl rfl (Nat.le_of_ble_eq_true rfl) rfl (fun X O E => ?_)
  refine g_iconst (x := (nI 0)) O dX9_lines_0 (by decide +kernel) ?_
  refine g_istore_n (L' := [(0, .ref u0), (1, .int (nI w)), (2, .int (nI 0))]) O dX9_lines_1 rfl (by decide) [1, 2, 0] rfl ?_
  refine g_iconst (x := (nI 0)) O dX9_lines_2 (by decide +kernel) ?_
  refine g_istore_n (L' := [(0, .ref u0), (1, .int (nI w)), (2, .int (nI 0)), (3, .int (nI 0))]) O dX9_lines_3 rfl (by decide) [1, 2, 3, 0] rfl ?_
  have J4 : ∀ (n_ : Nat), ∀ (i_ : Nat) (E_ : Nat → Bool) (hi_ : i_ ≤ 144) (hF : ∀ j, j < i_ → E_ j = !stB s w j), 144 - i_ < n_ → G X 0 0 4 [(0, .ref u0), (1, .int (nI w)), (2, .int (nI 0)), (3, .int (nI i_))] [] [(u0, .inr (9, [.ref u1, .ref u2, .ref u3, .ref u4, .ref u5, .ref u6, .int (nI kn), .ref u7, .int (bB ik), .ref u8, .int (nI ty), .ref u9, .int (nI ta), .int (bB iw), .ref u10, .ref u11])), (u4, .inl (tyI D, 6912, .inl SWT)), (u5, .inl (tyI D, 208, .inl M)), (u10, .inl (tyZ D, 144, .inl (bf E_))), (u11, .inl (tyI D, 144, .inl (nf rw_)))] := by
    intro n_
    induction n_ with
    | zero => intro i_ E_ hi_ hF hm_; exact absurd hm_ (Nat.not_lt_zero _)
    | succ n_ ih_ =>
      intro i_ E_ hi_ hF hm_
      refine g_iload_n O dX9_lines_4 3 rfl rfl ?_
      refine g_sipush (x := (nI 144)) O dX9_lines_5 (by decide +kernel) ?_
      refine g_icmp_geN (tgt := 37) O (by omega) (by omega) dX9_lines_8 (by decide) (fun c_1 => ?_) (fun c_1 => ?_)
      ·
        refine g_arr (f' := bf (fun q_ => !vO (mkV (fun p => stB s w p) rw_ 0) q_)) (ws' := [(u0, .inr (9, [.ref u1, .ref u2, .ref u3, .ref u4, .ref u5, .ref u6, .int (nI kn), .ref u7, .int (bB ik), .ref u8, .int (nI ty), .ref u9, .int (nI ta), .int (bB iw), .ref u10, .ref u11])), (u4, .inl (tyI D, 6912, .inl SWT)), (u5, .inl (tyI D, 208, .inl M)), (u10, .inl (tyZ D, 144, .inl (bf (fun q_ => !vO (mkV (fun p => stB s w p) rw_ 0) q_)))), (u11, .inl (tyI D, 144, .inl (nf rw_)))]) 3 rfl (fun j hj => by show bB (E_ j) = bB (!stB s w j); rw [hF j (by omega)]) rfl ?_
        refine g_iconst (x := (nI 0)) O dX9_lines_37 (by decide +kernel) ?_
        refine g_istore_n (L' := [(0, .ref u0), (1, .int (nI w)), (2, .int (nI 0)), (3, .int (nI 0))]) O dX9_lines_38 rfl (by decide) [1, 2, 3, 0] rfl ?_
        have J39 : ∀ (n_ : Nat), ∀ (i_ : Nat) (h_ : Nat) (t_ : VT) (hi_ : i_ ≤ 144) (hTv : t_ = (lnF s w rw_ 0 i_).1) (hh : h_ = (lnF s w rw_ 0 i_).2) (hl : h_ ≤ i_), 144 - i_ < n_ → G X 0 0 39 [(0, .ref u0), (1, .int (nI w)), (2, .int (nI h_)), (3, .int (nI i_))] [] [(u0, .inr (9, [.ref u1, .ref u2, .ref u3, .ref u4, .ref u5, .ref u6, .int (nI kn), .ref u7, .int (bB ik), .ref u8, .int (nI ty), .ref u9, .int (nI ta), .int (bB iw), .ref u10, .ref u11])), (u4, .inl (tyI D, 6912, .inl SWT)), (u5, .inl (tyI D, 208, .inl M)), (u10, .inl (tyZ D, 144, .inl (bf (fun q_ => !vO t_ q_)))), (u11, .inl (tyI D, 144, .inl (nf (vR t_))))] := by
          intro n_
          induction n_ with
          | zero => intro i_ h_ t_ hi_ hTv hh hl hm_; exact absurd hm_ (Nat.not_lt_zero _)
          | succ n_ ih_ =>
            intro i_ h_ t_ hi_ hTv hh hl hm_
            refine g_iload_n O dX9_lines_39 3 rfl rfl ?_
            refine g_sipush (x := (nI 144)) O dX9_lines_40 (by decide +kernel) ?_
            refine g_icmp_geN (tgt := 69) O (by omega) (by omega) dX9_lines_43 (by decide) (fun c_2 => ?_) (fun c_2 => ?_)
            ·
              obtain rfl : i_ = 144 := by omega
              refine g_iload_n O dX9_lines_69 2 rfl rfl ?_
              exact E 70 _ (nI h_) _ dX9_lines_70 (by rw [hh]; exact ⟨_, _, rfl, rfl⟩)
            ·
              refine g_aload_n O dX9_lines_46 0 rfl rfl ?_
              refine g_get O hiX9_lines_X9 0 rfl rfl 14 (by decide) (by decide +kernel) rfl dX9_lines_47 ?_
              refine g_iload_n O dX9_lines_50 3 rfl rfl ?_
              refine g_zaldN O 3 rfl (by omega) (by omega) dX9_lines_51 ?_
              refine g_if_neB (tgt := 63) O dX9_lines_52 (by decide) (fun c_3 => ?_) (fun c_3 => ?_)
              ·
                have hq : lnF s w rw_ 0 (i_ + 1) = (lnF s w rw_ 0 i_) := by simp only [lnF]; rw [← hTv, if_neg (by simpa using c_3)]
                refine g_iincN (L' := [(0, .ref u0), (1, .int (nI w)), (2, .int (nI h_)), (3, .int (nI (i_ + 1)))]) O dX9_lines_63 3 rfl (by decide) [1, 2, 3, 0] rfl ?_
                refine g_goto (tgt := 39) O dX9_lines_66 (by decide) ?_
                exact ih_ (i_ + 1) _ t_ (by first | assumption | omega | rfl) (by rw [hq] <;> first | rfl | exact hTv) (by rw [hq] <;> first | rfl | exact hh) (by first | assumption | omega | rfl) (by omega)
              ·
                have hop : vO t_ i_ = true := by simpa using c_3
                have hq : lnF s w rw_ 0 (i_ + 1) = (clF t_ i_, h_ + 1) := by simp only [lnF]; rw [← hTv, ← hh, if_pos hop]
                refine g_iincN (L' := [(0, .ref u0), (1, .int (nI w)), (2, .int (nI (h_ + 1))), (3, .int (nI i_))]) O dX9_lines_55 2 rfl (by decide) [1, 2, 0, 3] rfl ?_
                refine g_aload_n O dX9_lines_58 0 rfl rfl ?_
                refine g_iload_n O dX9_lines_59 3 rfl rfl ?_
                refine g_callV (As := [.int (nI i_)]) (wr := [(u4, .inl (tyI D, 6912, .inl SWT)), (u5, .inl (tyI D, 208, .inl M))]) O (kX9_meet l D z u0 u1 u2 u3 u4 u5 u6 u7 u8 u9 u10 u11 kn ik ty ta iw t_ i_ (by first | assumption | omega) (by first | assumption | omega)) gX9_lines_X9_meet rfl rfl rfl 1 (by decide +kernel) (by decide) (by decide) (q0 := 0) rfl rfl rfl [0, 3, 4] [1, 2] rfl (by decide) rfl (by decide) (by decide) rfl rfl (Nat.le_of_ble_eq_true rfl) dX9_lines_60 (fun r_4 w_5 hp => ?_)
                obtain ⟨rfl, rfl⟩ := hp
                refine g_eq (st' := []) (ws' := [(u4, .inl (tyI D, 6912, .inl SWT)), (u5, .inl (tyI D, 208, .inl M)), (u0, .inr (9, [.ref u1, .ref u2, .ref u3, .ref u4, .ref u5, .ref u6, .int (nI kn), .ref u7, .int (bB ik), .ref u8, .int (nI ty), .ref u9, .int (nI ta), .int (bB iw), .ref u10, .ref u11])), (u10, .inl (tyZ D, 144, .inl (bf (fun q_ => !vO (clF t_ i_) q_)))), (u11, .inl (tyI D, 144, .inl (nf (vR (clF t_ i_)))))]) rfl rfl rfl ?_
                refine g_iincN (L' := [(0, .ref u0), (1, .int (nI w)), (2, .int (nI (h_ + 1))), (3, .int (nI (i_ + 1)))]) O dX9_lines_63 3 rfl (by decide) [1, 2, 3, 0] rfl ?_
                refine g_goto (tgt := 39) O dX9_lines_66 (by decide) ?_
                refine g_perm (ws' := [(u0, .inr (9, [.ref u1, .ref u2, .ref u3, .ref u4, .ref u5, .ref u6, .int (nI kn), .ref u7, .int (bB ik), .ref u8, .int (nI ty), .ref u9, .int (nI ta), .int (bB iw), .ref u10, .ref u11])), (u4, .inl (tyI D, 6912, .inl SWT)), (u5, .inl (tyI D, 208, .inl M)), (u10, .inl (tyZ D, 144, .inl (bf (fun q_ => !vO (clF t_ i_) q_)))), (u11, .inl (tyI D, 144, .inl (nf (vR (clF t_ i_)))))]) [2, 0, 1, 3, 4] rfl (by decide) ?_
                exact ih_ (i_ + 1) _ (clF t_ i_) (by first | assumption | omega | rfl) (by rw [hq] <;> first | rfl | exact hTv) (by rw [hq] <;> first | rfl | exact hh) (by first | assumption | omega | rfl) (by omega)
        exact J39 _ 0 0 (mkV (fun p => stB s w p) rw_ 0) (Nat.zero_le _) (rfl) (rfl) (Nat.le_refl _) (Nat.lt_succ_self _)
      ·
        refine g_aload_n O dX9_lines_11 0 rfl rfl ?_
        refine g_get O hiX9_lines_X9 0 rfl rfl 14 (by decide) (by decide +kernel) rfl dX9_lines_12 ?_
        refine g_iload_n O dX9_lines_15 3 rfl rfl ?_
        refine g_aload_n O dX9_lines_16 0 rfl rfl ?_
        refine g_iload_n O dX9_lines_17 1 rfl rfl ?_
        refine g_iload_n O dX9_lines_18 3 rfl rfl ?_
        refine g_callV (As := [.int (nI w), .int (nI i_)]) (wr := [(u10, .inl (tyZ D, 144, .inl (bf E_))), (u11, .inl (tyI D, 144, .inl (nf rw_)))]) O (kX9_isStill l D z u0 u1 u2 u3 u4 u5 u6 u7 u8 u9 u10 u11 kn ik ty ta iw M s w i_ (by first | assumption | omega) (by first | assumption | omega) (by first | assumption | omega)) gX9_lines_X9_isStill rfl rfl rfl 2 (by decide +kernel) (by decide) (by decide) (q0 := 0) rfl rfl rfl [0, 1, 2] [3, 4] rfl (by decide) rfl (by decide) (by decide) rfl rfl (Nat.le_of_ble_eq_true rfl) dX9_lines_19 (fun r_6 w_7 hp => ?_)
        obtain ⟨rfl, rfl⟩ := hp
        refine g_eq (st' := [.int (bB (stB s w i_)), .int (nI i_), .ref u10]) (ws' := [(u10, .inl (tyZ D, 144, .inl (bf E_))), (u11, .inl (tyI D, 144, .inl (nf rw_))), (u0, .inr (9, [.ref u1, .ref u2, .ref u3, .ref u4, .ref u5, .ref u6, .int (nI kn), .ref u7, .int (bB ik), .ref u8, .int (nI ty), .ref u9, .int (nI ta), .int (bB iw), .ref u10, .ref u11])), (u4, .inl (tyI D, 6912, .inl SWT)), (u5, .inl (tyI D, 208, .inl M))]) rfl rfl rfl ?_
        refine g_if_neB (tgt := 29) O dX9_lines_22 (by decide) (fun c_8 => ?_) (fun c_8 => ?_)
        ·
          refine g_iconst (x := (nI 0)) O dX9_lines_29 (by decide +kernel) ?_
          refine g_zastN (f' := (bf (upf E_ i_ false))) (ws' := [(u10, .inl (tyZ D, 144, .inl (bf (upf E_ i_ false)))), (u11, .inl (tyI D, 144, .inl (nf rw_))), (u0, .inr (9, [.ref u1, .ref u2, .ref u3, .ref u4, .ref u5, .ref u6, .int (nI kn), .ref u7, .int (bB ik), .ref u8, .int (nI ty), .ref u9, .int (nI ta), .int (bB iw), .ref u10, .ref u11])), (u4, .inl (tyI D, 6912, .inl SWT)), (u5, .inl (tyI D, 208, .inl M))]) O 0 rfl (by omega) (by omega) dX9_lines_30 (bf_updF _ _) rfl ?_
          refine g_iincN (L' := [(0, .ref u0), (1, .int (nI w)), (2, .int (nI 0)), (3, .int (nI (i_ + 1)))]) O dX9_lines_31 3 rfl (by decide) [1, 2, 3, 0] rfl ?_
          refine g_goto (tgt := 4) O dX9_lines_34 (by decide) ?_
          refine g_perm (ws' := [(u0, .inr (9, [.ref u1, .ref u2, .ref u3, .ref u4, .ref u5, .ref u6, .int (nI kn), .ref u7, .int (bB ik), .ref u8, .int (nI ty), .ref u9, .int (nI ta), .int (bB iw), .ref u10, .ref u11])), (u4, .inl (tyI D, 6912, .inl SWT)), (u5, .inl (tyI D, 208, .inl M)), (u10, .inl (tyZ D, 144, .inl (bf (upf E_ i_ false)))), (u11, .inl (tyI D, 144, .inl (nf rw_)))]) [2, 3, 4, 0, 1] rfl (by decide) ?_
          exact ih_ (i_ + 1) _ (by first | assumption | omega | rfl) (fun j hj => by by_cases h : j = i_; (subst h; rw [upf_s]; simp_all); (rw [upf_n h]; exact hF j (by omega))) (by omega)
        ·
          refine g_iconst (x := (nI 1)) O dX9_lines_25 (by decide +kernel) ?_
          refine g_goto (tgt := 30) O dX9_lines_26 (by decide) ?_
          refine g_zastN (f' := (bf (upf E_ i_ true))) (ws' := [(u10, .inl (tyZ D, 144, .inl (bf (upf E_ i_ true)))), (u11, .inl (tyI D, 144, .inl (nf rw_))), (u0, .inr (9, [.ref u1, .ref u2, .ref u3, .ref u4, .ref u5, .ref u6, .int (nI kn), .ref u7, .int (bB ik), .ref u8, .int (nI ty), .ref u9, .int (nI ta), .int (bB iw), .ref u10, .ref u11])), (u4, .inl (tyI D, 6912, .inl SWT)), (u5, .inl (tyI D, 208, .inl M))]) O 0 rfl (by omega) (by omega) dX9_lines_30 (bf_updT _ _) rfl ?_
          refine g_iincN (L' := [(0, .ref u0), (1, .int (nI w)), (2, .int (nI 0)), (3, .int (nI (i_ + 1)))]) O dX9_lines_31 3 rfl (by decide) [1, 2, 3, 0] rfl ?_
          refine g_goto (tgt := 4) O dX9_lines_34 (by decide) ?_
          refine g_perm (ws' := [(u0, .inr (9, [.ref u1, .ref u2, .ref u3, .ref u4, .ref u5, .ref u6, .int (nI kn), .ref u7, .int (bB ik), .ref u8, .int (nI ty), .ref u9, .int (nI ta), .int (bB iw), .ref u10, .ref u11])), (u4, .inl (tyI D, 6912, .inl SWT)), (u5, .inl (tyI D, 208, .inl M)), (u10, .inl (tyZ D, 144, .inl (bf (upf E_ i_ true)))), (u11, .inl (tyI D, 144, .inl (nf rw_)))]) [2, 3, 4, 0, 1] rfl (by decide) ?_
          exact ih_ (i_ + 1) _ (by first | assumption | omega | rfl) (fun j hj => by by_cases h : j = i_; (subst h; rw [upf_s]; simp_all); (rw [upf_n h]; exact hF j (by omega))) (by omega)
  exact J4 _ 0 _ (Nat.zero_le _) (fun j hj => absurd hj (Nat.not_lt_zero _)) (Nat.lt_succ_self _)

set_option maxHeartbeats 2000000 in
set_option maxRecDepth 100000 in
theorem kX9_way_b1 (l : Launch) (D : va_G) (z : Nat × Nat × Nat) (u0 : Nat) (u1 : Nat) (u2 : Nat) (u3 : Nat) (u4 : Nat) (u5 : Nat) (u6 : Nat) (u7 : Nat) (u8 : Nat) (u9 : Nat) (u10 : Nat) (u11 : Nat) (kn : Nat) (ik : Bool) (ty : Nat) (ta : Nat) (iw : Bool) (w : Int32) (k : Int32) (hb : rgB w 48 = false) : CM l yX9_way wsX9_way ({ frames := 4, cells := 0, slots := 0, locals := 92 } : Room) D z [.ref u0, .int w, .int k] [(u0, .inr (9, [.ref u1, .ref u2, .ref u3, .ref u4, .ref u5, .ref u6, .int (nI kn), .ref u7, .int (bB ik), .ref u8, .int (nI ty), .ref u9, .int (nI ta), .int (bB iw), .ref u10, .ref u11]))] (fun r_ w_ => r_ = some (.int (-1)) ∧ w_ = [(u0, .inr (9, [.ref u1, .ref u2, .ref u3, .ref u4, .ref u5, .ref u6, .int (nI kn), .ref u7, .int (bB ik), .ref u8, .int (nI ty), .ref u9, .int (nI ta), .int (bB iw), .ref u10, .ref u11]))]) 0 0 := by
  refine CM_int (own := RX9) (cc := cX9_way) (maxL := 3) (L0 := [(0, .ref u0), (1, .int w), (2, .int k)]) (by decide) rfl rfl (Nat.le_of_ble_eq_true rfl) rfl (fun X O E => ?_)
  refine g_iload_n O dX9_way_0 1 rfl rfl ?_
  refine g_callS (As := [.int w]) (wr := [(u0, .inr (9, [.ref u1, .ref u2, .ref u3, .ref u4, .ref u5, .ref u6, .int (nI kn), .ref u7, .int (bB ik), .ref u8, .int (nI ty), .ref u9, .int (nI ta), .int (bB iw), .ref u10, .ref u11]))]) O (kX9_isWay l D z w ) gX9_way_X9_isWay rfl rfl rfl 1 (by decide +kernel) (by decide) (by decide) [] [0] rfl (by decide) rfl (by decide) (by decide) rfl rfl (Nat.le_of_ble_eq_true rfl) dX9_way_1 (fun r_1 w_2 hp => ?_)
  obtain ⟨rfl, rfl⟩ := hp
  refine g_eq (st' := [.int (bB (rgB w 48))]) (ws' := [(u0, .inr (9, [.ref u1, .ref u2, .ref u3, .ref u4, .ref u5, .ref u6, .int (nI kn), .ref u7, .int (bB ik), .ref u8, .int (nI ty), .ref u9, .int (nI ta), .int (bB iw), .ref u10, .ref u11]))]) rfl rfl rfl ?_
  refine g_if_neB (tgt := 9) O dX9_way_4 (by decide) (fun c_3 => absurd c_3 (by rw [hb]; decide)) (fun c_3 => ?_)
  refine g_iconst (x := (-1)) O dX9_way_7 (by decide +kernel) ?_
  exact E 8 _ (-1) _ dX9_way_8 ⟨rfl, rfl⟩

set_option maxHeartbeats 2000000 in
set_option maxRecDepth 100000 in
theorem kX9_way_b2 (l : Launch) (D : va_G) (z : Nat × Nat × Nat) (u0 : Nat) (u1 : Nat) (u2 : Nat) (u3 : Nat) (u4 : Nat) (u5 : Nat) (u6 : Nat) (u7 : Nat) (u8 : Nat) (u9 : Nat) (u10 : Nat) (u11 : Nat) (kn : Nat) (ik : Bool) (ty : Nat) (ta : Nat) (iw : Bool) (w : Nat) (k : Int32) (hw : w < 48) (hsw : k < 0 ∨ nI 8 ≤ k) : CM l yX9_way wsX9_way ({ frames := 4, cells := 0, slots := 0, locals := 92 } : Room) D z [.ref u0, .int (nI w), .int k] [(u0, .inr (9, [.ref u1, .ref u2, .ref u3, .ref u4, .ref u5, .ref u6, .int (nI kn), .ref u7, .int (bB ik), .ref u8, .int (nI ty), .ref u9, .int (nI ta), .int (bB iw), .ref u10, .ref u11]))] (fun r_ w_ => r_ = some (.int (-2)) ∧ w_ = [(u0, .inr (9, [.ref u1, .ref u2, .ref u3, .ref u4, .ref u5, .ref u6, .int (nI kn), .ref u7, .int (bB ik), .ref u8, .int (nI ty), .ref u9, .int (nI ta), .int (bB iw), .ref u10, .ref u11]))]) 0 0 := by
  refine CM_int (own := RX9) (cc := cX9_way) (maxL := 3) (L0 := [(0, .ref u0), (1, .int (nI w)), (2, .int k)]) (by decide) rfl rfl (Nat.le_of_ble_eq_true rfl) rfl (fun X O E => ?_)
  refine g_iload_n O dX9_way_0 1 rfl rfl ?_
  refine g_callS (As := [.int (nI w)]) (wr := [(u0, .inr (9, [.ref u1, .ref u2, .ref u3, .ref u4, .ref u5, .ref u6, .int (nI kn), .ref u7, .int (bB ik), .ref u8, .int (nI ty), .ref u9, .int (nI ta), .int (bB iw), .ref u10, .ref u11]))]) O (kX9_isWay l D z (nI w) ) gX9_way_X9_isWay rfl rfl rfl 1 (by decide +kernel) (by decide) (by decide) [] [0] rfl (by decide) rfl (by decide) (by decide) rfl rfl (Nat.le_of_ble_eq_true rfl) dX9_way_1 (fun r_1 w_2 hp => ?_)
  obtain ⟨rfl, rfl⟩ := hp
  refine g_eq (st' := [.int (bB (rgB (nI w) 48))]) (ws' := [(u0, .inr (9, [.ref u1, .ref u2, .ref u3, .ref u4, .ref u5, .ref u6, .int (nI kn), .ref u7, .int (bB ik), .ref u8, .int (nI ty), .ref u9, .int (nI ta), .int (bB iw), .ref u10, .ref u11]))]) rfl rfl rfl ?_
  refine g_if_neB (tgt := 9) O dX9_way_4 (by decide) (fun c_3 => ?_) (fun c_3 => absurd c_3 (by rw [rgB_t hw (by decide)]; decide))
  refine g_iload_n O dX9_way_9 2 rfl rfl ?_
  refine g_tableO (tgt := 110) (N := 8) O dX9_way_10 hsw (by decide) (by decide) (by decide) ?_
  refine g_bipush (x := (-2)) O dX9_way_110 (by decide +kernel) ?_
  exact E 112 _ (-2) _ dX9_way_112 ⟨rfl, rfl⟩

theorem hiX9_way_X9 : ∀ w ∈ wsX90, w ∈ wsX9_way := by intro w h; simp only [wsX9_way, List.mem_append, List.mem_cons, h, or_true, true_or]
set_option maxHeartbeats 2000000 in
set_option maxRecDepth 100000 in
theorem kX9_way_0 (l : Launch) (D : va_G) (z : Nat × Nat × Nat) (u0 : Nat) (u1 : Nat) (u2 : Nat) (u3 : Nat) (u4 : Nat) (u5 : Nat) (u6 : Nat) (u7 : Nat) (u8 : Nat) (u9 : Nat) (u10 : Nat) (u11 : Nat) (kn : Nat) (ik : Bool) (ty : Nat) (ta : Nat) (iw : Bool) (w : Nat) (hw : w < 48) : CM l yX9_way wsX9_way ({ frames := 4, cells := 0, slots := 0, locals := 92 } : Room) D z [.ref u0, .int (nI w), .int (nI 0)] [(u0, .inr (9, [.ref u1, .ref u2, .ref u3, .ref u4, .ref u5, .ref u6, .int (nI kn), .ref u7, .int (bB ik), .ref u8, .int (nI ty), .ref u9, .int (nI ta), .int (bB iw), .ref u10, .ref u11])), (u1, .inl (tyI D, 48, .inl (nf tM))), (u2, .inl (tyI D, 48, .inl (nf tN))), (u3, .inl (tyI D, 48, .inl (nf tS)))] (fun r_ w_ => r_ = some (.int (nI (tM w))) ∧ w_ = [(u0, .inr (9, [.ref u1, .ref u2, .ref u3, .ref u4, .ref u5, .ref u6, .int (nI kn), .ref u7, .int (bB ik), .ref u8, .int (nI ty), .ref u9, .int (nI ta), .int (bB iw), .ref u10, .ref u11])), (u1, .inl (tyI D, 48, .inl (nf tM))), (u2, .inl (tyI D, 48, .inl (nf tN))), (u3, .inl (tyI D, 48, .inl (nf tS)))]) 0 0 := by
  refine CM_int (own := RX9) (cc := cX9_way) (maxL := 3) (L0 := [(0, .ref u0), (1, .int (nI w)), (2, .int (nI 0))]) (by decide) rfl rfl (Nat.le_of_ble_eq_true rfl) rfl (fun X O E => ?_)
  refine g_iload_n O dX9_way_0 1 rfl rfl ?_
  refine g_callS (As := [.int (nI w)]) (wr := [(u0, .inr (9, [.ref u1, .ref u2, .ref u3, .ref u4, .ref u5, .ref u6, .int (nI kn), .ref u7, .int (bB ik), .ref u8, .int (nI ty), .ref u9, .int (nI ta), .int (bB iw), .ref u10, .ref u11])), (u1, .inl (tyI D, 48, .inl (nf tM))), (u2, .inl (tyI D, 48, .inl (nf tN))), (u3, .inl (tyI D, 48, .inl (nf tS)))]) O (kX9_isWay l D z (nI w) ) gX9_way_X9_isWay rfl rfl rfl 1 (by decide +kernel) (by decide) (by decide) [] [0, 1, 2, 3] rfl (by decide) rfl (by decide) (by decide) rfl rfl (Nat.le_of_ble_eq_true rfl) dX9_way_1 (fun r_1 w_2 hp => ?_)
  obtain ⟨rfl, rfl⟩ := hp
  refine g_eq (st' := [.int (bB (rgB (nI w) 48))]) (ws' := [(u0, .inr (9, [.ref u1, .ref u2, .ref u3, .ref u4, .ref u5, .ref u6, .int (nI kn), .ref u7, .int (bB ik), .ref u8, .int (nI ty), .ref u9, .int (nI ta), .int (bB iw), .ref u10, .ref u11])), (u1, .inl (tyI D, 48, .inl (nf tM))), (u2, .inl (tyI D, 48, .inl (nf tN))), (u3, .inl (tyI D, 48, .inl (nf tS)))]) rfl rfl rfl ?_
  refine g_if_neB (tgt := 9) O dX9_way_4 (by decide) (fun c_3 => ?_) (fun c_3 => absurd c_3 (by rw [rgB_t hw (by decide)]; decide))
  refine g_iload_n O dX9_way_9 2 rfl rfl ?_
  refine g_tableIn (off := 46) (tgt := 56) O dX9_way_10 (by decide +kernel) (by decide +kernel) (by decide +kernel) (by decide) ?_
  refine g_aload_n O dX9_way_56 0 rfl rfl ?_
  refine g_get O hiX9_way_X9 0 rfl rfl 0 (by decide) (by decide +kernel) rfl dX9_way_57 ?_
  refine g_iload_n O dX9_way_60 1 rfl rfl ?_
  refine g_ialdN O 1 rfl (by omega) (by omega) dX9_way_61 ?_
  exact E 62 _ (nI (tM w)) _ dX9_way_62 ⟨rfl, rfl⟩

set_option maxHeartbeats 2000000 in
set_option maxRecDepth 100000 in
theorem kX9_way_1 (l : Launch) (D : va_G) (z : Nat × Nat × Nat) (u0 : Nat) (u1 : Nat) (u2 : Nat) (u3 : Nat) (u4 : Nat) (u5 : Nat) (u6 : Nat) (u7 : Nat) (u8 : Nat) (u9 : Nat) (u10 : Nat) (u11 : Nat) (kn : Nat) (ik : Bool) (ty : Nat) (ta : Nat) (iw : Bool) (w : Nat) (hw : w < 48) : CM l yX9_way wsX9_way ({ frames := 4, cells := 0, slots := 0, locals := 92 } : Room) D z [.ref u0, .int (nI w), .int (nI 1)] [(u0, .inr (9, [.ref u1, .ref u2, .ref u3, .ref u4, .ref u5, .ref u6, .int (nI kn), .ref u7, .int (bB ik), .ref u8, .int (nI ty), .ref u9, .int (nI ta), .int (bB iw), .ref u10, .ref u11])), (u1, .inl (tyI D, 48, .inl (nf tM))), (u2, .inl (tyI D, 48, .inl (nf tN))), (u3, .inl (tyI D, 48, .inl (nf tS)))] (fun r_ w_ => r_ = some (.int (nI (tN w))) ∧ w_ = [(u0, .inr (9, [.ref u1, .ref u2, .ref u3, .ref u4, .ref u5, .ref u6, .int (nI kn), .ref u7, .int (bB ik), .ref u8, .int (nI ty), .ref u9, .int (nI ta), .int (bB iw), .ref u10, .ref u11])), (u1, .inl (tyI D, 48, .inl (nf tM))), (u2, .inl (tyI D, 48, .inl (nf tN))), (u3, .inl (tyI D, 48, .inl (nf tS)))]) 0 0 := by
  refine CM_int (own := RX9) (cc := cX9_way) (maxL := 3) (L0 := [(0, .ref u0), (1, .int (nI w)), (2, .int (nI 1))]) (by decide) rfl rfl (Nat.le_of_ble_eq_true rfl) rfl (fun X O E => ?_)
  refine g_iload_n O dX9_way_0 1 rfl rfl ?_
  refine g_callS (As := [.int (nI w)]) (wr := [(u0, .inr (9, [.ref u1, .ref u2, .ref u3, .ref u4, .ref u5, .ref u6, .int (nI kn), .ref u7, .int (bB ik), .ref u8, .int (nI ty), .ref u9, .int (nI ta), .int (bB iw), .ref u10, .ref u11])), (u1, .inl (tyI D, 48, .inl (nf tM))), (u2, .inl (tyI D, 48, .inl (nf tN))), (u3, .inl (tyI D, 48, .inl (nf tS)))]) O (kX9_isWay l D z (nI w) ) gX9_way_X9_isWay rfl rfl rfl 1 (by decide +kernel) (by decide) (by decide) [] [0, 1, 2, 3] rfl (by decide) rfl (by decide) (by decide) rfl rfl (Nat.le_of_ble_eq_true rfl) dX9_way_1 (fun r_1 w_2 hp => ?_)
  obtain ⟨rfl, rfl⟩ := hp
  refine g_eq (st' := [.int (bB (rgB (nI w) 48))]) (ws' := [(u0, .inr (9, [.ref u1, .ref u2, .ref u3, .ref u4, .ref u5, .ref u6, .int (nI kn), .ref u7, .int (bB ik), .ref u8, .int (nI ty), .ref u9, .int (nI ta), .int (bB iw), .ref u10, .ref u11])), (u1, .inl (tyI D, 48, .inl (nf tM))), (u2, .inl (tyI D, 48, .inl (nf tN))), (u3, .inl (tyI D, 48, .inl (nf tS)))]) rfl rfl rfl ?_
  refine g_if_neB (tgt := 9) O dX9_way_4 (by decide) (fun c_3 => ?_) (fun c_3 => absurd c_3 (by rw [rgB_t hw (by decide)]; decide))
  refine g_iload_n O dX9_way_9 2 rfl rfl ?_
  refine g_tableIn (off := 53) (tgt := 63) O dX9_way_10 (by decide +kernel) (by decide +kernel) (by decide +kernel) (by decide) ?_
  refine g_aload_n O dX9_way_63 0 rfl rfl ?_
  refine g_get O hiX9_way_X9 0 rfl rfl 1 (by decide) (by decide +kernel) rfl dX9_way_64 ?_
  refine g_iload_n O dX9_way_67 1 rfl rfl ?_
  refine g_ialdN O 2 rfl (by omega) (by omega) dX9_way_68 ?_
  exact E 69 _ (nI (tN w)) _ dX9_way_69 ⟨rfl, rfl⟩

set_option maxHeartbeats 2000000 in
set_option maxRecDepth 100000 in
theorem kX9_way_2 (l : Launch) (D : va_G) (z : Nat × Nat × Nat) (u0 : Nat) (u1 : Nat) (u2 : Nat) (u3 : Nat) (u4 : Nat) (u5 : Nat) (u6 : Nat) (u7 : Nat) (u8 : Nat) (u9 : Nat) (u10 : Nat) (u11 : Nat) (kn : Nat) (ik : Bool) (ty : Nat) (ta : Nat) (iw : Bool) (w : Nat) (hw : w < 48) : CM l yX9_way wsX9_way ({ frames := 4, cells := 0, slots := 0, locals := 92 } : Room) D z [.ref u0, .int (nI w), .int (nI 2)] [(u0, .inr (9, [.ref u1, .ref u2, .ref u3, .ref u4, .ref u5, .ref u6, .int (nI kn), .ref u7, .int (bB ik), .ref u8, .int (nI ty), .ref u9, .int (nI ta), .int (bB iw), .ref u10, .ref u11])), (u1, .inl (tyI D, 48, .inl (nf tM))), (u2, .inl (tyI D, 48, .inl (nf tN))), (u3, .inl (tyI D, 48, .inl (nf tS)))] (fun r_ w_ => r_ = some (.int (nI (tS w))) ∧ w_ = [(u0, .inr (9, [.ref u1, .ref u2, .ref u3, .ref u4, .ref u5, .ref u6, .int (nI kn), .ref u7, .int (bB ik), .ref u8, .int (nI ty), .ref u9, .int (nI ta), .int (bB iw), .ref u10, .ref u11])), (u1, .inl (tyI D, 48, .inl (nf tM))), (u2, .inl (tyI D, 48, .inl (nf tN))), (u3, .inl (tyI D, 48, .inl (nf tS)))]) 0 0 := by
  refine CM_int (own := RX9) (cc := cX9_way) (maxL := 3) (L0 := [(0, .ref u0), (1, .int (nI w)), (2, .int (nI 2))]) (by decide) rfl rfl (Nat.le_of_ble_eq_true rfl) rfl (fun X O E => ?_)
  refine g_iload_n O dX9_way_0 1 rfl rfl ?_
  refine g_callS (As := [.int (nI w)]) (wr := [(u0, .inr (9, [.ref u1, .ref u2, .ref u3, .ref u4, .ref u5, .ref u6, .int (nI kn), .ref u7, .int (bB ik), .ref u8, .int (nI ty), .ref u9, .int (nI ta), .int (bB iw), .ref u10, .ref u11])), (u1, .inl (tyI D, 48, .inl (nf tM))), (u2, .inl (tyI D, 48, .inl (nf tN))), (u3, .inl (tyI D, 48, .inl (nf tS)))]) O (kX9_isWay l D z (nI w) ) gX9_way_X9_isWay rfl rfl rfl 1 (by decide +kernel) (by decide) (by decide) [] [0, 1, 2, 3] rfl (by decide) rfl (by decide) (by decide) rfl rfl (Nat.le_of_ble_eq_true rfl) dX9_way_1 (fun r_1 w_2 hp => ?_)
  obtain ⟨rfl, rfl⟩ := hp
  refine g_eq (st' := [.int (bB (rgB (nI w) 48))]) (ws' := [(u0, .inr (9, [.ref u1, .ref u2, .ref u3, .ref u4, .ref u5, .ref u6, .int (nI kn), .ref u7, .int (bB ik), .ref u8, .int (nI ty), .ref u9, .int (nI ta), .int (bB iw), .ref u10, .ref u11])), (u1, .inl (tyI D, 48, .inl (nf tM))), (u2, .inl (tyI D, 48, .inl (nf tN))), (u3, .inl (tyI D, 48, .inl (nf tS)))]) rfl rfl rfl ?_
  refine g_if_neB (tgt := 9) O dX9_way_4 (by decide) (fun c_3 => ?_) (fun c_3 => absurd c_3 (by rw [rgB_t hw (by decide)]; decide))
  refine g_iload_n O dX9_way_9 2 rfl rfl ?_
  refine g_tableIn (off := 60) (tgt := 70) O dX9_way_10 (by decide +kernel) (by decide +kernel) (by decide +kernel) (by decide) ?_
  refine g_aload_n O dX9_way_70 0 rfl rfl ?_
  refine g_get O hiX9_way_X9 0 rfl rfl 2 (by decide) (by decide +kernel) rfl dX9_way_71 ?_
  refine g_iload_n O dX9_way_74 1 rfl rfl ?_
  refine g_ialdN O 3 rfl (by omega) (by omega) dX9_way_75 ?_
  exact E 76 _ (nI (tS w)) _ dX9_way_76 ⟨rfl, rfl⟩

set_option maxHeartbeats 2000000 in
set_option maxRecDepth 100000 in
theorem kX9_way_3 (l : Launch) (D : va_G) (z : Nat × Nat × Nat) (u0 : Nat) (u1 : Nat) (u2 : Nat) (u3 : Nat) (u4 : Nat) (u5 : Nat) (u6 : Nat) (u7 : Nat) (u8 : Nat) (u9 : Nat) (u10 : Nat) (u11 : Nat) (kn : Nat) (ik : Bool) (ty : Nat) (ta : Nat) (iw : Bool) (w : Nat) (hw : w < 48) : CM l yX9_way wsX9_way ({ frames := 4, cells := 0, slots := 0, locals := 92 } : Room) D z [.ref u0, .int (nI w), .int (nI 3)] [(u0, .inr (9, [.ref u1, .ref u2, .ref u3, .ref u4, .ref u5, .ref u6, .int (nI kn), .ref u7, .int (bB ik), .ref u8, .int (nI ty), .ref u9, .int (nI ta), .int (bB iw), .ref u10, .ref u11])), (u1, .inl (tyI D, 48, .inl (nf tM))), (u2, .inl (tyI D, 48, .inl (nf tN))), (u3, .inl (tyI D, 48, .inl (nf tS)))] (fun r_ w_ => r_ = some (.int (nI (10 * (tM w * tM w + tN w * tN w) + tS w))) ∧ w_ = [(u0, .inr (9, [.ref u1, .ref u2, .ref u3, .ref u4, .ref u5, .ref u6, .int (nI kn), .ref u7, .int (bB ik), .ref u8, .int (nI ty), .ref u9, .int (nI ta), .int (bB iw), .ref u10, .ref u11])), (u1, .inl (tyI D, 48, .inl (nf tM))), (u2, .inl (tyI D, 48, .inl (nf tN))), (u3, .inl (tyI D, 48, .inl (nf tS)))]) 0 0 := by
  refine CM_int (own := RX9) (cc := cX9_way) (maxL := 3) (L0 := [(0, .ref u0), (1, .int (nI w)), (2, .int (nI 3))]) (by decide) rfl rfl (Nat.le_of_ble_eq_true rfl) rfl (fun X O E => ?_)
  refine g_iload_n O dX9_way_0 1 rfl rfl ?_
  refine g_callS (As := [.int (nI w)]) (wr := [(u0, .inr (9, [.ref u1, .ref u2, .ref u3, .ref u4, .ref u5, .ref u6, .int (nI kn), .ref u7, .int (bB ik), .ref u8, .int (nI ty), .ref u9, .int (nI ta), .int (bB iw), .ref u10, .ref u11])), (u1, .inl (tyI D, 48, .inl (nf tM))), (u2, .inl (tyI D, 48, .inl (nf tN))), (u3, .inl (tyI D, 48, .inl (nf tS)))]) O (kX9_isWay l D z (nI w) ) gX9_way_X9_isWay rfl rfl rfl 1 (by decide +kernel) (by decide) (by decide) [] [0, 1, 2, 3] rfl (by decide) rfl (by decide) (by decide) rfl rfl (Nat.le_of_ble_eq_true rfl) dX9_way_1 (fun r_1 w_2 hp => ?_)
  obtain ⟨rfl, rfl⟩ := hp
  refine g_eq (st' := [.int (bB (rgB (nI w) 48))]) (ws' := [(u0, .inr (9, [.ref u1, .ref u2, .ref u3, .ref u4, .ref u5, .ref u6, .int (nI kn), .ref u7, .int (bB ik), .ref u8, .int (nI ty), .ref u9, .int (nI ta), .int (bB iw), .ref u10, .ref u11])), (u1, .inl (tyI D, 48, .inl (nf tM))), (u2, .inl (tyI D, 48, .inl (nf tN))), (u3, .inl (tyI D, 48, .inl (nf tS)))]) rfl rfl rfl ?_
  refine g_if_neB (tgt := 9) O dX9_way_4 (by decide) (fun c_3 => ?_) (fun c_3 => absurd c_3 (by rw [rgB_t hw (by decide)]; decide))
  refine g_iload_n O dX9_way_9 2 rfl rfl ?_
  refine g_tableIn (off := 67) (tgt := 77) O dX9_way_10 (by decide +kernel) (by decide +kernel) (by decide +kernel) (by decide) ?_
  refine g_aload_n O dX9_way_77 0 rfl rfl ?_
  refine g_iload_n O dX9_way_78 1 rfl rfl ?_
  refine g_callV (As := [.int (nI w)]) (wr := []) O (kX9_noteOf l D z u0 u1 u2 u3 u4 u5 u6 u7 u8 u9 u10 u11 kn ik ty ta iw w (by first | assumption | omega)) gX9_way_X9_noteOf rfl rfl rfl 1 (by decide +kernel) (by decide) (by decide) (q0 := 0) rfl rfl rfl [0, 1, 2, 3] [] rfl (by decide) rfl (by decide) (by decide) rfl rfl (Nat.le_of_ble_eq_true rfl) dX9_way_79 (fun r_4 w_5 hp => ?_)
  obtain ⟨rfl, rfl⟩ := hp
  refine g_eq (st' := [.int (nI (10 * (tM w * tM w + tN w * tN w) + tS w))]) (ws' := [(u0, .inr (9, [.ref u1, .ref u2, .ref u3, .ref u4, .ref u5, .ref u6, .int (nI kn), .ref u7, .int (bB ik), .ref u8, .int (nI ty), .ref u9, .int (nI ta), .int (bB iw), .ref u10, .ref u11])), (u1, .inl (tyI D, 48, .inl (nf tM))), (u2, .inl (tyI D, 48, .inl (nf tN))), (u3, .inl (tyI D, 48, .inl (nf tS)))]) rfl rfl rfl ?_
  exact E 82 _ (nI (10 * (tM w * tM w + tN w * tN w) + tS w)) _ dX9_way_82 ⟨rfl, rfl⟩

set_option maxHeartbeats 2000000 in
set_option maxRecDepth 100000 in
theorem kX9_way_4 (l : Launch) (D : va_G) (z : Nat × Nat × Nat) (u0 : Nat) (u1 : Nat) (u2 : Nat) (u3 : Nat) (u4 : Nat) (u5 : Nat) (u6 : Nat) (u7 : Nat) (u8 : Nat) (u9 : Nat) (u10 : Nat) (u11 : Nat) (kn : Nat) (ik : Bool) (ty : Nat) (ta : Nat) (iw : Bool) (M : Nat → Int32) (s : SV) (w : Nat) (hw : w < 48) (hM : RM M s) : CM l yX9_way wsX9_way ({ frames := 4, cells := 0, slots := 0, locals := 92 } : Room) D z [.ref u0, .int (nI w), .int (nI 4)] [(u0, .inr (9, [.ref u1, .ref u2, .ref u3, .ref u4, .ref u5, .ref u6, .int (nI kn), .ref u7, .int (bB ik), .ref u8, .int (nI ty), .ref u9, .int (nI ta), .int (bB iw), .ref u10, .ref u11])), (u4, .inl (tyI D, 6912, .inl SWT)), (u5, .inl (tyI D, 208, .inl M))] (fun r_ w_ => r_ = some (.int (nI (cntB (fun p => stB s w p) 144))) ∧ w_ = [(u0, .inr (9, [.ref u1, .ref u2, .ref u3, .ref u4, .ref u5, .ref u6, .int (nI kn), .ref u7, .int (bB ik), .ref u8, .int (nI ty), .ref u9, .int (nI ta), .int (bB iw), .ref u10, .ref u11])), (u4, .inl (tyI D, 6912, .inl SWT)), (u5, .inl (tyI D, 208, .inl M))]) 0 0 := by
  refine CM_int (own := RX9) (cc := cX9_way) (maxL := 3) (L0 := [(0, .ref u0), (1, .int (nI w)), (2, .int (nI 4))]) (by decide) rfl rfl (Nat.le_of_ble_eq_true rfl) rfl (fun X O E => ?_)
  refine g_iload_n O dX9_way_0 1 rfl rfl ?_
  refine g_callS (As := [.int (nI w)]) (wr := [(u0, .inr (9, [.ref u1, .ref u2, .ref u3, .ref u4, .ref u5, .ref u6, .int (nI kn), .ref u7, .int (bB ik), .ref u8, .int (nI ty), .ref u9, .int (nI ta), .int (bB iw), .ref u10, .ref u11])), (u4, .inl (tyI D, 6912, .inl SWT)), (u5, .inl (tyI D, 208, .inl M))]) O (kX9_isWay l D z (nI w) ) gX9_way_X9_isWay rfl rfl rfl 1 (by decide +kernel) (by decide) (by decide) [] [0, 1, 2] rfl (by decide) rfl (by decide) (by decide) rfl rfl (Nat.le_of_ble_eq_true rfl) dX9_way_1 (fun r_1 w_2 hp => ?_)
  obtain ⟨rfl, rfl⟩ := hp
  refine g_eq (st' := [.int (bB (rgB (nI w) 48))]) (ws' := [(u0, .inr (9, [.ref u1, .ref u2, .ref u3, .ref u4, .ref u5, .ref u6, .int (nI kn), .ref u7, .int (bB ik), .ref u8, .int (nI ty), .ref u9, .int (nI ta), .int (bB iw), .ref u10, .ref u11])), (u4, .inl (tyI D, 6912, .inl SWT)), (u5, .inl (tyI D, 208, .inl M))]) rfl rfl rfl ?_
  refine g_if_neB (tgt := 9) O dX9_way_4 (by decide) (fun c_3 => ?_) (fun c_3 => absurd c_3 (by rw [rgB_t hw (by decide)]; decide))
  refine g_iload_n O dX9_way_9 2 rfl rfl ?_
  refine g_tableIn (off := 73) (tgt := 83) O dX9_way_10 (by decide +kernel) (by decide +kernel) (by decide +kernel) (by decide) ?_
  refine g_aload_n O dX9_way_83 0 rfl rfl ?_
  refine g_iload_n O dX9_way_84 1 rfl rfl ?_
  refine g_iload_n O dX9_way_85 2 rfl rfl ?_
  refine g_callV (As := [.int (nI w), .int (nI 4)]) (wr := []) O (kX9_still4 l D z u0 u1 u2 u3 u4 u5 u6 u7 u8 u9 u10 u11 kn ik ty ta iw M s w (by first | assumption | omega) (by first | assumption | omega)) gX9_way_X9_still rfl rfl rfl 2 (by decide +kernel) (by decide) (by decide) (q0 := 0) rfl rfl rfl [0, 1, 2] [] rfl (by decide) rfl (by decide) (by decide) rfl rfl (Nat.le_of_ble_eq_true rfl) dX9_way_86 (fun r_4 w_5 hp => ?_)
  obtain ⟨rfl, rfl⟩ := hp
  refine g_eq (st' := [.int (nI (cntB (fun p => stB s w p) 144))]) (ws' := [(u0, .inr (9, [.ref u1, .ref u2, .ref u3, .ref u4, .ref u5, .ref u6, .int (nI kn), .ref u7, .int (bB ik), .ref u8, .int (nI ty), .ref u9, .int (nI ta), .int (bB iw), .ref u10, .ref u11])), (u4, .inl (tyI D, 6912, .inl SWT)), (u5, .inl (tyI D, 208, .inl M))]) rfl rfl rfl ?_
  exact E 89 _ (nI (cntB (fun p => stB s w p) 144)) _ dX9_way_89 ⟨rfl, rfl⟩

set_option maxHeartbeats 2000000 in
set_option maxRecDepth 100000 in
theorem kX9_way_6 (l : Launch) (D : va_G) (z : Nat × Nat × Nat) (u0 : Nat) (u1 : Nat) (u2 : Nat) (u3 : Nat) (u4 : Nat) (u5 : Nat) (u6 : Nat) (u7 : Nat) (u8 : Nat) (u9 : Nat) (u10 : Nat) (u11 : Nat) (kn : Nat) (ik : Bool) (ty : Nat) (ta : Nat) (iw : Bool) (M : Nat → Int32) (s : SV) (w : Nat) (hw : w < 48) (hM : RM M s) : CM l yX9_way wsX9_way ({ frames := 4, cells := 0, slots := 0, locals := 92 } : Room) D z [.ref u0, .int (nI w), .int (nI 6)] [(u0, .inr (9, [.ref u1, .ref u2, .ref u3, .ref u4, .ref u5, .ref u6, .int (nI kn), .ref u7, .int (bB ik), .ref u8, .int (nI ty), .ref u9, .int (nI ta), .int (bB iw), .ref u10, .ref u11])), (u4, .inl (tyI D, 6912, .inl SWT)), (u5, .inl (tyI D, 208, .inl M))] (fun r_ w_ => r_ = some (.int (nI (gsN s w 144))) ∧ w_ = [(u0, .inr (9, [.ref u1, .ref u2, .ref u3, .ref u4, .ref u5, .ref u6, .int (nI kn), .ref u7, .int (bB ik), .ref u8, .int (nI ty), .ref u9, .int (nI ta), .int (bB iw), .ref u10, .ref u11])), (u4, .inl (tyI D, 6912, .inl SWT)), (u5, .inl (tyI D, 208, .inl M))]) 0 0 := by
  refine CM_int (own := RX9) (cc := cX9_way) (maxL := 3) (L0 := [(0, .ref u0), (1, .int (nI w)), (2, .int (nI 6))]) (by decide) rfl rfl (Nat.le_of_ble_eq_true rfl) rfl (fun X O E => ?_)
  refine g_iload_n O dX9_way_0 1 rfl rfl ?_
  refine g_callS (As := [.int (nI w)]) (wr := [(u0, .inr (9, [.ref u1, .ref u2, .ref u3, .ref u4, .ref u5, .ref u6, .int (nI kn), .ref u7, .int (bB ik), .ref u8, .int (nI ty), .ref u9, .int (nI ta), .int (bB iw), .ref u10, .ref u11])), (u4, .inl (tyI D, 6912, .inl SWT)), (u5, .inl (tyI D, 208, .inl M))]) O (kX9_isWay l D z (nI w) ) gX9_way_X9_isWay rfl rfl rfl 1 (by decide +kernel) (by decide) (by decide) [] [0, 1, 2] rfl (by decide) rfl (by decide) (by decide) rfl rfl (Nat.le_of_ble_eq_true rfl) dX9_way_1 (fun r_1 w_2 hp => ?_)
  obtain ⟨rfl, rfl⟩ := hp
  refine g_eq (st' := [.int (bB (rgB (nI w) 48))]) (ws' := [(u0, .inr (9, [.ref u1, .ref u2, .ref u3, .ref u4, .ref u5, .ref u6, .int (nI kn), .ref u7, .int (bB ik), .ref u8, .int (nI ty), .ref u9, .int (nI ta), .int (bB iw), .ref u10, .ref u11])), (u4, .inl (tyI D, 6912, .inl SWT)), (u5, .inl (tyI D, 208, .inl M))]) rfl rfl rfl ?_
  refine g_if_neB (tgt := 9) O dX9_way_4 (by decide) (fun c_3 => ?_) (fun c_3 => absurd c_3 (by rw [rgB_t hw (by decide)]; decide))
  refine g_iload_n O dX9_way_9 2 rfl rfl ?_
  refine g_tableIn (off := 73) (tgt := 83) O dX9_way_10 (by decide +kernel) (by decide +kernel) (by decide +kernel) (by decide) ?_
  refine g_aload_n O dX9_way_83 0 rfl rfl ?_
  refine g_iload_n O dX9_way_84 1 rfl rfl ?_
  refine g_iload_n O dX9_way_85 2 rfl rfl ?_
  refine g_callV (As := [.int (nI w), .int (nI 6)]) (wr := []) O (kX9_still6 l D z u0 u1 u2 u3 u4 u5 u6 u7 u8 u9 u10 u11 kn ik ty ta iw M s w (by first | assumption | omega) (by first | assumption | omega)) gX9_way_X9_still rfl rfl rfl 2 (by decide +kernel) (by decide) (by decide) (q0 := 0) rfl rfl rfl [0, 1, 2] [] rfl (by decide) rfl (by decide) (by decide) rfl rfl (Nat.le_of_ble_eq_true rfl) dX9_way_86 (fun r_4 w_5 hp => ?_)
  obtain ⟨rfl, rfl⟩ := hp
  refine g_eq (st' := [.int (nI (gsN s w 144))]) (ws' := [(u0, .inr (9, [.ref u1, .ref u2, .ref u3, .ref u4, .ref u5, .ref u6, .int (nI kn), .ref u7, .int (bB ik), .ref u8, .int (nI ty), .ref u9, .int (nI ta), .int (bB iw), .ref u10, .ref u11])), (u4, .inl (tyI D, 6912, .inl SWT)), (u5, .inl (tyI D, 208, .inl M))]) rfl rfl rfl ?_
  exact E 89 _ (nI (gsN s w 144)) _ dX9_way_89 ⟨rfl, rfl⟩

set_option maxHeartbeats 2000000 in
set_option maxRecDepth 100000 in
/-- way 5 -/
theorem kX9_way_5 (l : Launch) (D : va_G) (z : Nat × Nat × Nat) (u0 : Nat) (u1 : Nat) (u2 : Nat) (u3 : Nat) (u4 : Nat) (u5 : Nat) (u6 : Nat) (u7 : Nat) (u8 : Nat) (u9 : Nat) (u10 : Nat) (u11 : Nat) (kn : Nat) (ik : Bool) (ty : Nat) (ta : Nat) (iw : Bool) (M : Nat → Int32) (s : SV) (me : Nat → Bool) (rw_ : Nat → Nat) (w : Nat) (hw : w < 48) (hM : RM M s) : CM l yX9_way wsX9_way ({ frames := 4, cells := 0, slots := 0, locals := 92 } : Room) D z [.ref u0, .int (nI w), .int (nI 5)] [(u0, .inr (9, [.ref u1, .ref u2, .ref u3, .ref u4, .ref u5, .ref u6, .int (nI kn), .ref u7, .int (bB ik), .ref u8, .int (nI ty), .ref u9, .int (nI ta), .int (bB iw), .ref u10, .ref u11])), (u4, .inl (tyI D, 6912, .inl SWT)), (u5, .inl (tyI D, 208, .inl M)), (u10, .inl (tyZ D, 144, .inl (bf me))), (u11, .inl (tyI D, 144, .inl (nf rw_)))] (fun r_ w_ => ∃ (me9 : Nat → Bool), ∃ (rw9 : Nat → Nat), r_ = some (.int (nI ((lnF s w rw_ 0 144).2))) ∧ w_ = [(u0, .inr (9, [.ref u1, .ref u2, .ref u3, .ref u4, .ref u5, .ref u6, .int (nI kn), .ref u7, .int (bB ik), .ref u8, .int (nI ty), .ref u9, .int (nI ta), .int (bB iw), .ref u10, .ref u11])), (u4, .inl (tyI D, 6912, .inl SWT)), (u5, .inl (tyI D, 208, .inl M)), (u10, .inl (tyZ D, 144, .inl (bf me9))), (u11, .inl (tyI D, 144, .inl (nf rw9)))]) 0 0 := by
  refine CM_int (own := RX9) (cc := cX9_way) (maxL := 3) (L0 := [(0, .ref u0), (1, .int (nI w)), (2, .int (nI 5))]) (by decide) rfl rfl (Nat.le_of_ble_eq_true rfl) rfl (fun X O E => ?_)
  refine g_iload_n O dX9_way_0 1 rfl rfl ?_
  refine g_callS (As := [.int (nI w)]) (wr := [(u0, .inr (9, [.ref u1, .ref u2, .ref u3, .ref u4, .ref u5, .ref u6, .int (nI kn), .ref u7, .int (bB ik), .ref u8, .int (nI ty), .ref u9, .int (nI ta), .int (bB iw), .ref u10, .ref u11])), (u4, .inl (tyI D, 6912, .inl SWT)), (u5, .inl (tyI D, 208, .inl M)), (u10, .inl (tyZ D, 144, .inl (bf me))), (u11, .inl (tyI D, 144, .inl (nf rw_)))]) O (kX9_isWay l D z (nI w) ) gX9_way_X9_isWay rfl rfl rfl 1 (by decide +kernel) (by decide) (by decide) [] [0, 1, 2, 3, 4] rfl (by decide) rfl (by decide) (by decide) rfl rfl (Nat.le_of_ble_eq_true rfl) dX9_way_1 (fun r_1 w_2 hp => ?_)
  obtain ⟨rfl, rfl⟩ := hp
  refine g_eq (st' := [.int (bB (rgB (nI w) 48))]) (ws' := [(u0, .inr (9, [.ref u1, .ref u2, .ref u3, .ref u4, .ref u5, .ref u6, .int (nI kn), .ref u7, .int (bB ik), .ref u8, .int (nI ty), .ref u9, .int (nI ta), .int (bB iw), .ref u10, .ref u11])), (u4, .inl (tyI D, 6912, .inl SWT)), (u5, .inl (tyI D, 208, .inl M)), (u10, .inl (tyZ D, 144, .inl (bf me))), (u11, .inl (tyI D, 144, .inl (nf rw_)))]) rfl rfl rfl ?_
  refine g_if_neB (tgt := 9) O dX9_way_4 (by decide) (fun c_3 => ?_) (fun c_3 => absurd c_3 (by rw [rgB_t hw (by decide)]; decide))
  refine g_iload_n O dX9_way_9 2 rfl rfl ?_
  refine g_tableIn (off := 80) (tgt := 90) O dX9_way_10 (by decide +kernel) (by decide +kernel) (by decide +kernel) (by decide) ?_
  refine g_aload_n O dX9_way_90 0 rfl rfl ?_
  refine g_iload_n O dX9_way_91 1 rfl rfl ?_
  refine g_callV (As := [.int (nI w)]) (wr := []) O (kX9_lines l D z u0 u1 u2 u3 u4 u5 u6 u7 u8 u9 u10 u11 kn ik ty ta iw M s me rw_ w (by first | assumption | omega) (by first | assumption | omega)) gX9_way_X9_lines rfl rfl rfl 1 (by decide +kernel) (by decide) (by decide) (q0 := 0) rfl rfl rfl [0, 1, 2, 3, 4] [] rfl (by decide) rfl (by decide) (by decide) rfl rfl (Nat.le_of_ble_eq_true rfl) dX9_way_92 (fun r_4 w_5 hp => ?_)
  obtain ⟨me9_6, rw9_7, rfl, rfl⟩ := hp
  refine g_eq (st' := [.int (nI ((lnF s w rw_ 0 144).2))]) (ws' := [(u0, .inr (9, [.ref u1, .ref u2, .ref u3, .ref u4, .ref u5, .ref u6, .int (nI kn), .ref u7, .int (bB ik), .ref u8, .int (nI ty), .ref u9, .int (nI ta), .int (bB iw), .ref u10, .ref u11])), (u4, .inl (tyI D, 6912, .inl SWT)), (u5, .inl (tyI D, 208, .inl M)), (u10, .inl (tyZ D, 144, .inl (bf me9_6))), (u11, .inl (tyI D, 144, .inl (nf rw9_7)))]) rfl rfl rfl ?_
  exact E 95 _ (nI ((lnF s w rw_ 0 144).2)) _ dX9_way_95 (⟨_, _, rfl, rfl⟩)

set_option maxHeartbeats 2000000 in
set_option maxRecDepth 100000 in
theorem kX9_way_7 (l : Launch) (D : va_G) (z : Nat × Nat × Nat) (u0 : Nat) (u1 : Nat) (u2 : Nat) (u3 : Nat) (u4 : Nat) (u5 : Nat) (u6 : Nat) (u7 : Nat) (u8 : Nat) (u9 : Nat) (u10 : Nat) (u11 : Nat) (kn : Nat) (ik : Bool) (ty : Nat) (ta : Nat) (iw : Bool) (M : Nat → Int32) (s : SV) (w : Nat) (hw : w < 48) (hM : RM M s) (hnc : sv_nc s ≤ 4) (hcc : ∀ j, j < sv_nc s → sv_cc s j < 12 ∧ sv_cr s j < 12) : CM l yX9_way wsX9_way ({ frames := 4, cells := 0, slots := 0, locals := 92 } : Room) D z [.ref u0, .int (nI w), .int (nI 7)] [(u0, .inr (9, [.ref u1, .ref u2, .ref u3, .ref u4, .ref u5, .ref u6, .int (nI kn), .ref u7, .int (bB ik), .ref u8, .int (nI ty), .ref u9, .int (nI ta), .int (bB iw), .ref u10, .ref u11])), (u4, .inl (tyI D, 6912, .inl SWT)), (u5, .inl (tyI D, 208, .inl M))] (fun r_ w_ => r_ = some (.int (bB (clB s w))) ∧ w_ = [(u0, .inr (9, [.ref u1, .ref u2, .ref u3, .ref u4, .ref u5, .ref u6, .int (nI kn), .ref u7, .int (bB ik), .ref u8, .int (nI ty), .ref u9, .int (nI ta), .int (bB iw), .ref u10, .ref u11])), (u4, .inl (tyI D, 6912, .inl SWT)), (u5, .inl (tyI D, 208, .inl M))]) 0 0 := by
  refine CM_int (own := RX9) (cc := cX9_way) (maxL := 3) (L0 := [(0, .ref u0), (1, .int (nI w)), (2, .int (nI 7))]) (by decide) rfl rfl (Nat.le_of_ble_eq_true rfl) rfl (fun X O E => ?_)
  refine g_iload_n O dX9_way_0 1 rfl rfl ?_
  refine g_callS (As := [.int (nI w)]) (wr := [(u0, .inr (9, [.ref u1, .ref u2, .ref u3, .ref u4, .ref u5, .ref u6, .int (nI kn), .ref u7, .int (bB ik), .ref u8, .int (nI ty), .ref u9, .int (nI ta), .int (bB iw), .ref u10, .ref u11])), (u4, .inl (tyI D, 6912, .inl SWT)), (u5, .inl (tyI D, 208, .inl M))]) O (kX9_isWay l D z (nI w) ) gX9_way_X9_isWay rfl rfl rfl 1 (by decide +kernel) (by decide) (by decide) [] [0, 1, 2] rfl (by decide) rfl (by decide) (by decide) rfl rfl (Nat.le_of_ble_eq_true rfl) dX9_way_1 (fun r_1 w_2 hp => ?_)
  obtain ⟨rfl, rfl⟩ := hp
  refine g_eq (st' := [.int (bB (rgB (nI w) 48))]) (ws' := [(u0, .inr (9, [.ref u1, .ref u2, .ref u3, .ref u4, .ref u5, .ref u6, .int (nI kn), .ref u7, .int (bB ik), .ref u8, .int (nI ty), .ref u9, .int (nI ta), .int (bB iw), .ref u10, .ref u11])), (u4, .inl (tyI D, 6912, .inl SWT)), (u5, .inl (tyI D, 208, .inl M))]) rfl rfl rfl ?_
  refine g_if_neB (tgt := 9) O dX9_way_4 (by decide) (fun c_3 => ?_) (fun c_3 => absurd c_3 (by rw [rgB_t hw (by decide)]; decide))
  refine g_iload_n O dX9_way_9 2 rfl rfl ?_
  refine g_tableIn (off := 86) (tgt := 96) O dX9_way_10 (by decide +kernel) (by decide +kernel) (by decide +kernel) (by decide) ?_
  refine g_aload_n O dX9_way_96 0 rfl rfl ?_
  refine g_iload_n O dX9_way_97 1 rfl rfl ?_
  refine g_callV (As := [.int (nI w)]) (wr := []) O (kX9_isHeld l D z u0 u1 u2 u3 u4 u5 u6 u7 u8 u9 u10 u11 kn ik ty ta iw M s w (by first | assumption | omega) (by first | assumption | omega) (by first | assumption | omega) (by first | assumption | omega)) gX9_way_X9_isHeld rfl rfl rfl 1 (by decide +kernel) (by decide) (by decide) (q0 := 0) rfl rfl rfl [0, 1, 2] [] rfl (by decide) rfl (by decide) (by decide) rfl rfl (Nat.le_of_ble_eq_true rfl) dX9_way_98 (fun r_4 w_5 hp => ?_)
  obtain ⟨rfl, rfl⟩ := hp
  refine g_eq (st' := [.int (bB (!clB s w))]) (ws' := [(u0, .inr (9, [.ref u1, .ref u2, .ref u3, .ref u4, .ref u5, .ref u6, .int (nI kn), .ref u7, .int (bB ik), .ref u8, .int (nI ty), .ref u9, .int (nI ta), .int (bB iw), .ref u10, .ref u11])), (u4, .inl (tyI D, 6912, .inl SWT)), (u5, .inl (tyI D, 208, .inl M))]) rfl rfl rfl ?_
  refine g_if_eqB (tgt := 108) O dX9_way_101 (by decide) (fun c_6 => ?_) (fun c_6 => ?_)
  ·
    have hcl : clB s w = true := by simpa using c_6
    refine g_iconst (x := (nI 1)) O dX9_way_108 (by decide +kernel) ?_
    exact E 109 _ (nI 1) _ dX9_way_109 (by rw [hcl]; exact ⟨rfl, rfl⟩)
  ·
    have hcl : clB s w = false := by simpa using c_6
    refine g_iconst (x := (nI 0)) O dX9_way_104 (by decide +kernel) ?_
    refine g_goto (tgt := 109) O dX9_way_105 (by decide) ?_
    exact E 109 _ (nI 0) _ dX9_way_109 (by rw [hcl]; exact ⟨rfl, rfl⟩)

set_option maxHeartbeats 2000000 in
set_option maxRecDepth 100000 in
theorem kX9_swing_b1 (l : Launch) (D : va_G) (z : Nat × Nat × Nat) (u0 : Nat) (u1 : Nat) (u2 : Nat) (u3 : Nat) (u4 : Nat) (u5 : Nat) (u6 : Nat) (u7 : Nat) (u8 : Nat) (u9 : Nat) (u10 : Nat) (u11 : Nat) (kn : Nat) (ik : Bool) (ty : Nat) (ta : Nat) (iw : Bool) (w : Int32) (x : Int32) (y : Int32) (hb : rgB w 48 = false) : CM l yX9_swing wsX9_swing ({ frames := 2, cells := 0, slots := 0, locals := 43 } : Room) D z [.ref u0, .int w, .int x, .int y] [(u0, .inr (9, [.ref u1, .ref u2, .ref u3, .ref u4, .ref u5, .ref u6, .int (nI kn), .ref u7, .int (bB ik), .ref u8, .int (nI ty), .ref u9, .int (nI ta), .int (bB iw), .ref u10, .ref u11]))] (fun r_ w_ => r_ = some (.int (-1)) ∧ w_ = [(u0, .inr (9, [.ref u1, .ref u2, .ref u3, .ref u4, .ref u5, .ref u6, .int (nI kn), .ref u7, .int (bB ik), .ref u8, .int (nI ty), .ref u9, .int (nI ta), .int (bB iw), .ref u10, .ref u11]))]) 0 0 := by
  refine CM_int (own := RX9) (cc := cX9_swing) (maxL := 4) (L0 := [(0, .ref u0), (1, .int w), (2, .int x), (3, .int y)]) (by decide) rfl rfl (Nat.le_of_ble_eq_true rfl) rfl (fun X O E => ?_)
  refine g_iload_n O dX9_swing_0 1 rfl rfl ?_
  refine g_callS (As := [.int w]) (wr := [(u0, .inr (9, [.ref u1, .ref u2, .ref u3, .ref u4, .ref u5, .ref u6, .int (nI kn), .ref u7, .int (bB ik), .ref u8, .int (nI ty), .ref u9, .int (nI ta), .int (bB iw), .ref u10, .ref u11]))]) O (kX9_isWay l D z w ) gX9_swing_X9_isWay rfl rfl rfl 1 (by decide +kernel) (by decide) (by decide) [] [0] rfl (by decide) rfl (by decide) (by decide) rfl rfl (Nat.le_of_ble_eq_true rfl) dX9_swing_1 (fun r_1 w_2 hp => ?_)
  obtain ⟨rfl, rfl⟩ := hp
  refine g_eq (st' := [.int (bB (rgB w 48))]) (ws' := [(u0, .inr (9, [.ref u1, .ref u2, .ref u3, .ref u4, .ref u5, .ref u6, .int (nI kn), .ref u7, .int (bB ik), .ref u8, .int (nI ty), .ref u9, .int (nI ta), .int (bB iw), .ref u10, .ref u11]))]) rfl rfl rfl ?_
  refine g_if_eqB (tgt := 29) O dX9_swing_4 (by decide) (fun c_3 => ?_) (fun c_3 => absurd c_3 (by rw [hb]; decide))
  refine g_iconst (x := (-1)) O dX9_swing_29 (by decide +kernel) ?_
  exact E 30 _ (-1) _ dX9_swing_30 ⟨rfl, rfl⟩
