set_option maxHeartbeats 2000000 in
set_option maxRecDepth 100000 in
/-- how many ways are possible -/
theorem kX9_possibles (l : Launch) (D : va_G) (z : Nat × Nat × Nat) (u0 : Nat) (u1 : Nat) (u2 : Nat) (u3 : Nat) (u4 : Nat) (u5 : Nat) (u6 : Nat) (u7 : Nat) (u8 : Nat) (u9 : Nat) (u10 : Nat) (u11 : Nat) (kn : Nat) (ik : Bool) (ty : Nat) (ta : Nat) (iw : Bool) (M : Nat → Int32) (s : SV) (hM : RM M s) (hnc : sv_nc s ≤ 4) (hcc : ∀ j, j < sv_nc s → sv_cc s j < 12 ∧ sv_cr s j < 12) : CM l yX9_possibles wsX9_possibles ({ frames := 5, cells := 0, slots := 0, locals := 112 } : Room) D z [.ref u0] [(u0, .inr (9, [.ref u1, .ref u2, .ref u3, .ref u4, .ref u5, .ref u6, .int (nI kn), .ref u7, .int (bB ik), .ref u8, .int (nI ty), .ref u9, .int (nI ta), .int (bB iw), .ref u10, .ref u11])), (u4, .inl (tyI D, 6912, .inl SWT)), (u5, .inl (tyI D, 208, .inl M))] (fun r_ w_ => r_ = some (.int (nI (cntB (fun w => psO s w 48) 48))) ∧ w_ = [(u0, .inr (9, [.ref u1, .ref u2, .ref u3, .ref u4, .ref u5, .ref u6, .int (nI kn), .ref u7, .int (bB ik), .ref u8, .int (nI ty), .ref u9, .int (nI ta), .int (bB iw), .ref u10, .ref u11])), (u4, .inl (tyI D, 6912, .inl SWT)), (u5, .inl (tyI D, 208, .inl M))]) 0 0 := by
  refine CM_int (own := RX9) (cc := cX9_possibles) (maxL := 3) (L0 := [(0, .ref u0)]) (by decide) rfl rfl (Nat.le_of_ble_eq_true rfl) rfl (fun X O E => ?_)
  refine g_iconst (x := (nI 0)) O dX9_possibles_0 (by decide +kernel) ?_
  refine g_istore_n (L' := [(0, .ref u0), (1, .int (nI 0))]) O dX9_possibles_1 rfl (by decide) [1, 0] rfl ?_
  refine g_iconst (x := (nI 0)) O dX9_possibles_2 (by decide +kernel) ?_
  refine g_istore_n (L' := [(0, .ref u0), (1, .int (nI 0)), (2, .int (nI 0))]) O dX9_possibles_3 rfl (by decide) [1, 2, 0] rfl ?_
  have J4 : ∀ (n_ : Nat), ∀ (i_ : Nat) (hi_ : i_ ≤ 48), 48 - i_ < n_ → G X 0 0 4 [(0, .ref u0), (1, .int (nI (cntB (fun w => psO s w 48) i_))), (2, .int (nI i_))] [] [(u0, .inr (9, [.ref u1, .ref u2, .ref u3, .ref u4, .ref u5, .ref u6, .int (nI kn), .ref u7, .int (bB ik), .ref u8, .int (nI ty), .ref u9, .int (nI ta), .int (bB iw), .ref u10, .ref u11])), (u4, .inl (tyI D, 6912, .inl SWT)), (u5, .inl (tyI D, 208, .inl M))] := by
    intro n_
    induction n_ with
    | zero => intro i_ hi_ hm_; exact absurd hm_ (Nat.not_lt_zero _)
    | succ n_ ih_ =>
      intro i_ hi_ hm_
      refine g_iload_n O dX9_possibles_4 2 rfl rfl ?_
      refine g_bipush (x := (nI 48)) O dX9_possibles_5 (by decide +kernel) ?_
      refine g_icmp_geN (tgt := 32) O (by omega) (by omega) dX9_possibles_7 (by decide) (fun c_1 => ?_) (fun c_1 => ?_)
      ·
        obtain rfl : i_ = 48 := by omega
        refine g_iload_n O dX9_possibles_32 1 rfl rfl ?_
        exact E 33 _ (nI (cntB (fun w => psO s w 48) 48)) _ dX9_possibles_33 ⟨rfl, rfl⟩
      ·
        refine g_iload_n O dX9_possibles_10 1 rfl rfl ?_
        refine g_aload_n O dX9_possibles_11 0 rfl rfl ?_
        refine g_iload_n O dX9_possibles_12 2 rfl rfl ?_
        refine g_callV (As := [.int (nI i_)]) (wr := []) O (kX9_isPossible l D z u0 u1 u2 u3 u4 u5 u6 u7 u8 u9 u10 u11 kn ik ty ta iw M s i_ (by first | assumption | omega) (by first | assumption | omega) (by first | assumption | omega) (by first | assumption | omega)) gX9_possibles_X9_isPossible rfl rfl rfl 1 (by decide +kernel) (by decide) (by decide) (q0 := 0) rfl rfl rfl [0, 1, 2] [] rfl (by decide) rfl (by decide) (by decide) rfl rfl (Nat.le_of_ble_eq_true rfl) dX9_possibles_13 (fun r_2 w_3 hp => ?_)
        obtain ⟨rfl, rfl⟩ := hp
        refine g_eq (st' := [.int (bB (psO s i_ 48)), .int (nI (cntB (fun w => psO s w 48) i_))]) (ws' := [(u0, .inr (9, [.ref u1, .ref u2, .ref u3, .ref u4, .ref u5, .ref u6, .int (nI kn), .ref u7, .int (bB ik), .ref u8, .int (nI ty), .ref u9, .int (nI ta), .int (bB iw), .ref u10, .ref u11])), (u4, .inl (tyI D, 6912, .inl SWT)), (u5, .inl (tyI D, 208, .inl M))]) rfl rfl rfl ?_
        refine g_if_eqB (tgt := 23) O dX9_possibles_16 (by decide) (fun c_4 => ?_) (fun c_4 => ?_)
        ·
          have hq := cntB_f (p := fun w => psO s w 48) c_4
          refine g_iconst (x := (nI 0)) O dX9_possibles_23 (by decide +kernel) ?_
          refine g_iaddN O dX9_possibles_24 ?_
          refine g_eq (st' := [.int (nI (cntB (fun w => psO s w 48) (i_ + 1)))]) (by rw [hq] <;> rfl) rfl rfl ?_
          refine g_istore_n (L' := [(0, .ref u0), (1, .int (nI (cntB (fun w => psO s w 48) (i_ + 1)))), (2, .int (nI i_))]) O dX9_possibles_25 rfl (by decide) [1, 0, 2] rfl ?_
          refine g_iincN (L' := [(0, .ref u0), (1, .int (nI (cntB (fun w => psO s w 48) (i_ + 1)))), (2, .int (nI (i_ + 1)))]) O dX9_possibles_26 2 rfl (by decide) [1, 2, 0] rfl ?_
          refine g_goto (tgt := 4) O dX9_possibles_29 (by decide) ?_
          exact ih_ (i_ + 1) (by first | assumption | omega | rfl) (by omega)
        ·
          have hq := cntB_t (p := fun w => psO s w 48) c_4
          refine g_iconst (x := (nI 1)) O dX9_possibles_19 (by decide +kernel) ?_
          refine g_goto (tgt := 24) O dX9_possibles_20 (by decide) ?_
          refine g_iaddN O dX9_possibles_24 ?_
          refine g_eq (st' := [.int (nI (cntB (fun w => psO s w 48) (i_ + 1)))]) (by rw [hq] <;> rfl) rfl rfl ?_
          refine g_istore_n (L' := [(0, .ref u0), (1, .int (nI (cntB (fun w => psO s w 48) (i_ + 1)))), (2, .int (nI i_))]) O dX9_possibles_25 rfl (by decide) [1, 0, 2] rfl ?_
          refine g_iincN (L' := [(0, .ref u0), (1, .int (nI (cntB (fun w => psO s w 48) (i_ + 1)))), (2, .int (nI (i_ + 1)))]) O dX9_possibles_26 2 rfl (by decide) [1, 2, 0] rfl ?_
          refine g_goto (tgt := 4) O dX9_possibles_29 (by decide) ?_
          exact ih_ (i_ + 1) (by first | assumption | omega | rfl) (by omega)
  exact J4 _ 0 (Nat.zero_le _) (Nat.lt_succ_self _)
