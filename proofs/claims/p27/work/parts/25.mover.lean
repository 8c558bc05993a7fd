set_option maxHeartbeats 2000000 in
set_option maxRecDepth 100000 in
theorem kX3_isAtEdge (l : Launch) (D : va_G) (z : Nat × Nat × Nat) (p : Nat) (hp : p < 144) : CM l yX3_isAtEdge wsX3_isAtEdge ({ frames := 1, cells := 0, slots := 0, locals := 20 } : Room) D z [.int (nI p)] [] (fun r_ w_ => r_ = some (.int (bB (edB p))) ∧ w_ = []) 0 0 := by
  refine CM_bool (own := RX3) (cc := cX3_isAtEdge) (maxL := 3) (L0 := [(0, .int (nI p))]) (by decide) rfl rfl (Nat.le_of_ble_eq_true rfl) rfl (fun X O E => ?_)
  refine g_iload_n O dX3_isAtEdge_0 0 rfl rfl ?_
  refine g_callSN (As := [.int (nI p)]) (wr := []) O (kX8_columnOf l D z p (by first | assumption | omega)) gX3_isAtEdge_X8_columnOf_n29 rfl rfl rfl 1 (by decide +kernel) (by decide) (by decide) (by decide +kernel) 3 rfl (by decide +kernel) [] [] rfl (by decide) rfl (by decide) (by decide) rfl rfl (Nat.le_of_ble_eq_true rfl) dX3_isAtEdge_1 (fun r_1 w_2 hp => ?_)
  obtain ⟨rfl, rfl⟩ := hp
  refine g_eq (st' := [.int (nI (p % 12))]) (ws' := []) rfl rfl rfl ?_
  refine g_istore_n (L' := [(0, .int (nI p)), (1, .int (nI (p % 12)))]) O dX3_isAtEdge_4 rfl (by decide) [1, 0] rfl ?_
  refine g_iload_n O dX3_isAtEdge_5 0 rfl rfl ?_
  refine g_callSN (As := [.int (nI p)]) (wr := []) O (kX8_rowOf l D z p (by first | assumption | omega)) gX3_isAtEdge_X8_rowOf_n33 rfl rfl rfl 1 (by decide +kernel) (by decide) (by decide) (by decide +kernel) 4 rfl (by decide +kernel) [] [] rfl (by decide) rfl (by decide) (by decide) rfl rfl (Nat.le_of_ble_eq_true rfl) dX3_isAtEdge_6 (fun r_3 w_4 hp => ?_)
  obtain ⟨rfl, rfl⟩ := hp
  refine g_eq (st' := [.int (nI (p / 12))]) (ws' := []) rfl rfl rfl ?_
  refine g_istore_n (L' := [(0, .int (nI p)), (1, .int (nI (p % 12))), (2, .int (nI (p / 12)))]) O dX3_isAtEdge_9 rfl (by decide) [1, 2, 0] rfl ?_
  refine g_iload_n O dX3_isAtEdge_10 1 rfl rfl ?_
  refine g_if_eqN (tgt := 30) O (by omega) dX3_isAtEdge_11 (by decide) (fun c_5 => ?_) (fun c_5 => ?_)
  ·
    refine g_iconst (x := (nI 1)) O dX3_isAtEdge_30 (by decide +kernel) ?_
    refine g_goto (tgt := 35) O dX3_isAtEdge_31 (by decide) ?_
    refine g_eq (st' := [.int (bB true)]) rfl rfl rfl ?_
    exact E 35 _ true _ dX3_isAtEdge_35 (by first | (rw [show edB p = true from decide_eq_true (by omega)]; exact ⟨rfl, rfl⟩) | (rw [show edB p = false from decide_eq_false (by omega)]; exact ⟨rfl, rfl⟩))
  ·
    refine g_iload_n O dX3_isAtEdge_14 2 rfl rfl ?_
    refine g_if_eqN (tgt := 30) O (by omega) dX3_isAtEdge_15 (by decide) (fun c_6 => ?_) (fun c_6 => ?_)
    ·
      refine g_iconst (x := (nI 1)) O dX3_isAtEdge_30 (by decide +kernel) ?_
      refine g_goto (tgt := 35) O dX3_isAtEdge_31 (by decide) ?_
      refine g_eq (st' := [.int (bB true)]) rfl rfl rfl ?_
      exact E 35 _ true _ dX3_isAtEdge_35 (by first | (rw [show edB p = true from decide_eq_true (by omega)]; exact ⟨rfl, rfl⟩) | (rw [show edB p = false from decide_eq_false (by omega)]; exact ⟨rfl, rfl⟩))
    ·
      refine g_iload_n O dX3_isAtEdge_18 1 rfl rfl ?_
      refine g_bipush (x := (nI 11)) O dX3_isAtEdge_19 (by decide +kernel) ?_
      refine g_icmp_eqN (tgt := 30) O (by omega) (by omega) dX3_isAtEdge_21 (by decide) (fun c_7 => ?_) (fun c_7 => ?_)
      ·
        refine g_iconst (x := (nI 1)) O dX3_isAtEdge_30 (by decide +kernel) ?_
        refine g_goto (tgt := 35) O dX3_isAtEdge_31 (by decide) ?_
        refine g_eq (st' := [.int (bB true)]) rfl rfl rfl ?_
        exact E 35 _ true _ dX3_isAtEdge_35 (by first | (rw [show edB p = true from decide_eq_true (by omega)]; exact ⟨rfl, rfl⟩) | (rw [show edB p = false from decide_eq_false (by omega)]; exact ⟨rfl, rfl⟩))
      ·
        refine g_iload_n O dX3_isAtEdge_24 2 rfl rfl ?_
        refine g_bipush (x := (nI 11)) O dX3_isAtEdge_25 (by decide +kernel) ?_
        refine g_icmp_neN (tgt := 34) O (by omega) (by omega) dX3_isAtEdge_27 (by decide) (fun c_8 => ?_) (fun c_8 => ?_)
        ·
          refine g_iconst (x := (nI 0)) O dX3_isAtEdge_34 (by decide +kernel) ?_
          refine g_eq (st' := [.int (bB false)]) rfl rfl rfl ?_
          exact E 35 _ false _ dX3_isAtEdge_35 (by first | (rw [show edB p = true from decide_eq_true (by omega)]; exact ⟨rfl, rfl⟩) | (rw [show edB p = false from decide_eq_false (by omega)]; exact ⟨rfl, rfl⟩))
        ·
          refine g_iconst (x := (nI 1)) O dX3_isAtEdge_30 (by decide +kernel) ?_
          refine g_goto (tgt := 35) O dX3_isAtEdge_31 (by decide) ?_
          refine g_eq (st' := [.int (bB true)]) rfl rfl rfl ?_
          exact E 35 _ true _ dX3_isAtEdge_35 (by first | (rw [show edB p = true from decide_eq_true (by omega)]; exact ⟨rfl, rfl⟩) | (rw [show edB p = false from decide_eq_false (by omega)]; exact ⟨rfl, rfl⟩))
theorem hiX3_calmerOf_X3 : ∀ w ∈ wsX30, w ∈ wsX3_calmerOf := by decide +kernel
set_option maxHeartbeats 2000000 in
set_option maxRecDepth 100000 in
/-- the calmer of two places -/
theorem kX3_calmerOf (l : Launch) (D : va_G) (z : Nat × Nat × Nat) (m0 : Nat) (m1 : Nat) (m2 : Nat) (m3 : Nat) (w0 : Nat) (h0 : Nat) (sw : Nat → Int32) (t : Nat) (x : Int32) (y : Int32) (ht : t < 144) : CM l yX3_calmerOf wsX3_calmerOf ({ frames := 1, cells := 0, slots := 0, locals := 21 } : Room) D z [.ref m0, .int (nI t), .int x, .int y] [(m0, .inr (3, [.ref w0, .ref h0, .ref m1, .ref m2, .ref m3])), (m1, .inl (tyI D, 144, .inl sw))] (fun r_ w_ => r_ = some (.int (nI (clm sw t (rchP x y)))) ∧ w_ = [(m0, .inr (3, [.ref w0, .ref h0, .ref m1, .ref m2, .ref m3])), (m1, .inl (tyI D, 144, .inl sw))]) 0 0 := by
  refine CM_int (own := RX3) (cc := cX3_calmerOf) (maxL := 4) (L0 := [(0, .ref m0), (1, .int (nI t)), (2, .int x), (3, .int y)]) (by decide) rfl rfl (Nat.le_of_ble_eq_true rfl) rfl (fun X O E => ?_)
  refine g_iload_n O dX3_calmerOf_0 2 rfl rfl ?_
  refine g_iload_n O dX3_calmerOf_1 3 rfl rfl ?_
  refine g_callSN (As := [.int x, .int y]) (wr := [(m0, .inr (3, [.ref w0, .ref h0, .ref m1, .ref m2, .ref m3])), (m1, .inl (tyI D, 144, .inl sw))]) O (kX8_isPlace l D z x y ) gX3_calmerOf_X8_isPlace_n55 rfl rfl rfl 2 (by decide +kernel) (by decide) (by decide) (by decide +kernel) 6 rfl (by decide +kernel) [] [0, 1] rfl (by decide) rfl (by decide) (by decide) rfl rfl (Nat.le_of_ble_eq_true rfl) dX3_calmerOf_2 (fun r_1 w_2 hp => ?_)
  obtain ⟨rfl, rfl⟩ := hp
  refine g_eq (st' := [.int (bB (rgB x 12 && rgB y 12))]) (ws' := [(m0, .inr (3, [.ref w0, .ref h0, .ref m1, .ref m2, .ref m3])), (m1, .inl (tyI D, 144, .inl sw))]) rfl rfl rfl ?_
  refine g_if_eqB (tgt := 33) O dX3_calmerOf_5 (by decide) (fun c_3 => ?_) (fun c_3 => ?_)
  ·
    have hr := rchP_n c_3
    have hv : clm sw t (rchP x y) = t := by rw [hr]; rfl
    refine g_iload_n O dX3_calmerOf_33 1 rfl rfl ?_
    exact E 34 _ (nI t) _ dX3_calmerOf_34 (by rw [hv]; exact ⟨rfl, rfl⟩)
  ·
    rw [Bool.and_eq_true] at c_3
    obtain ⟨⟨a_, ha, rfl⟩, ⟨d_, hd, rfl⟩⟩ := And.intro ((rgB_iff (by decide)).mp c_3.1) ((rgB_iff (by decide)).mp c_3.2)
    have hr := rchP_s ha hd
    refine g_aload_n O dX3_calmerOf_8 0 rfl rfl ?_
    refine g_get O hiX3_calmerOf_X3 0 rfl rfl 2 (by decide) (by decide +kernel) rfl dX3_calmerOf_9 ?_
    refine g_iload_n O dX3_calmerOf_12 2 rfl rfl ?_
    refine g_iload_n O dX3_calmerOf_13 3 rfl rfl ?_
    refine g_callSN (As := [.int (nI a_), .int (nI d_)]) (wr := [(m0, .inr (3, [.ref w0, .ref h0, .ref m1, .ref m2, .ref m3])), (m1, .inl (tyI D, 144, .inl sw))]) O (kX8_placeOf l D z a_ d_ ) gX3_calmerOf_X8_placeOf_n49 rfl rfl rfl 2 (by decide +kernel) (by decide) (by decide) (by decide +kernel) 5 rfl (by decide +kernel) [] [0, 1] rfl (by decide) rfl (by decide) (by decide) rfl rfl (Nat.le_of_ble_eq_true rfl) dX3_calmerOf_14 (fun r_4 w_5 hp => ?_)
    obtain ⟨rfl, rfl⟩ := hp
    refine g_eq (st' := [.int (nI (d_ * 12 + a_)), .ref m1]) (ws' := [(m0, .inr (3, [.ref w0, .ref h0, .ref m1, .ref m2, .ref m3])), (m1, .inl (tyI D, 144, .inl sw))]) rfl rfl rfl ?_
    refine g_ialdN O 1 rfl (by omega) (by omega) dX3_calmerOf_17 ?_
    refine g_aload_n O dX3_calmerOf_18 0 rfl rfl ?_
    refine g_get O hiX3_calmerOf_X3 0 rfl rfl 2 (by decide) (by decide +kernel) rfl dX3_calmerOf_19 ?_
    refine g_iload_n O dX3_calmerOf_22 1 rfl rfl ?_
    refine g_ialdN O 1 rfl (by omega) (by omega) dX3_calmerOf_23 ?_
    refine g_icmp_ge (tgt := 33) O dX3_calmerOf_24 (by decide) (fun c_6 => ?_) (fun c_6 => ?_)
    ·
      have hv : clm sw t (rchP (nI a_) (nI d_)) = t := by rw [hr]; simp only [clm]; rw [if_neg (Int32.not_lt.mpr c_6)]
      refine g_iload_n O dX3_calmerOf_33 1 rfl rfl ?_
      exact E 34 _ (nI t) _ dX3_calmerOf_34 (by rw [hv]; exact ⟨rfl, rfl⟩)
    ·
      have hv : clm sw t (rchP (nI a_) (nI d_)) = d_ * 12 + a_ := by rw [hr]; simp only [clm]; rw [if_pos (Int32.not_le.mp c_6)]
      refine g_iload_n O dX3_calmerOf_27 2 rfl rfl ?_
      refine g_iload_n O dX3_calmerOf_28 3 rfl rfl ?_
      refine g_callSN (As := [.int (nI a_), .int (nI d_)]) (wr := [(m0, .inr (3, [.ref w0, .ref h0, .ref m1, .ref m2, .ref m3])), (m1, .inl (tyI D, 144, .inl sw))]) O (kX8_placeOf l D z a_ d_ ) gX3_calmerOf_X8_placeOf_n49 rfl rfl rfl 2 (by decide +kernel) (by decide) (by decide) (by decide +kernel) 5 rfl (by decide +kernel) [] [0, 1] rfl (by decide) rfl (by decide) (by decide) rfl rfl (Nat.le_of_ble_eq_true rfl) dX3_calmerOf_29 (fun r_7 w_8 hp => ?_)
      obtain ⟨rfl, rfl⟩ := hp
      refine g_eq (st' := [.int (nI (d_ * 12 + a_))]) (ws' := [(m0, .inr (3, [.ref w0, .ref h0, .ref m1, .ref m2, .ref m3])), (m1, .inl (tyI D, 144, .inl sw))]) rfl rfl rfl ?_
      exact E 32 _ (nI (d_ * 12 + a_)) _ dX3_calmerOf_32 (by rw [hv]; exact ⟨rfl, rfl⟩)
set_option maxHeartbeats 2000000 in
set_option maxRecDepth 100000 in
/-- where grains go -/
theorem kX3_targetOf (l : Launch) (D : va_G) (z : Nat × Nat × Nat) (m0 : Nat) (m1 : Nat) (m2 : Nat) (m3 : Nat) (w0 : Nat) (h0 : Nat) (sw : Nat → Int32) (x : Nat) (y : Nat) (hx : x < 12) (hy : y < 12) : CM l yX3_targetOf wsX3_targetOf ({ frames := 2, cells := 0, slots := 0, locals := 44 } : Room) D z [.ref m0, .int (nI x), .int (nI y)] [(m0, .inr (3, [.ref w0, .ref h0, .ref m1, .ref m2, .ref m3])), (m1, .inl (tyI D, 144, .inl sw))] (fun r_ w_ => r_ = some (.int (nI (tgF sw x y))) ∧ w_ = [(m0, .inr (3, [.ref w0, .ref h0, .ref m1, .ref m2, .ref m3])), (m1, .inl (tyI D, 144, .inl sw))]) 0 0 := by
  refine CM_int (own := RX3) (cc := cX3_targetOf) (maxL := 4) (L0 := [(0, .ref m0), (1, .int (nI x)), (2, .int (nI y))]) (by decide) rfl rfl (Nat.le_of_ble_eq_true rfl) rfl (fun X O E => ?_)
  refine g_iload_n O dX3_targetOf_0 1 rfl rfl ?_
  refine g_iload_n O dX3_targetOf_1 2 rfl rfl ?_
  refine g_callSN (As := [.int (nI x), .int (nI y)]) (wr := [(m0, .inr (3, [.ref w0, .ref h0, .ref m1, .ref m2, .ref m3])), (m1, .inl (tyI D, 144, .inl sw))]) O (kX8_placeOf l D z x y ) gX3_targetOf_X8_placeOf_n49 rfl rfl rfl 2 (by decide +kernel) (by decide) (by decide) (by decide +kernel) 5 rfl (by decide +kernel) [] [0, 1] rfl (by decide) rfl (by decide) (by decide) rfl rfl (Nat.le_of_ble_eq_true rfl) dX3_targetOf_2 (fun r_1 w_2 hp => ?_)
  obtain ⟨rfl, rfl⟩ := hp
  refine g_eq (st' := [.int (nI (y * 12 + x))]) (ws' := [(m0, .inr (3, [.ref w0, .ref h0, .ref m1, .ref m2, .ref m3])), (m1, .inl (tyI D, 144, .inl sw))]) rfl rfl rfl ?_
  refine g_istore_n (L' := [(0, .ref m0), (1, .int (nI x)), (2, .int (nI y)), (3, .int (nI (y * 12 + x)))]) O dX3_targetOf_5 rfl (by decide) [1, 2, 3, 0] rfl ?_
  refine g_aload_n O dX3_targetOf_6 0 rfl rfl ?_
  refine g_iload_n O dX3_targetOf_7 3 rfl rfl ?_
  refine g_iload_n O dX3_targetOf_8 1 rfl rfl ?_
  refine g_iload_n O dX3_targetOf_9 2 rfl rfl ?_
  refine g_iconst (x := (nI 1)) O dX3_targetOf_10 (by decide +kernel) ?_
  refine g_isub O dX3_targetOf_11 ?_
  refine g_callV (As := [.int (nI (y * 12 + x)), .int (nI x), .int ((nI y) - (nI 1))]) (wr := []) O (kX3_calmerOf l D z m0 m1 m2 m3 w0 h0 sw (y * 12 + x) (nI x) ((nI y) - (nI 1)) (by repeat (first | omega | exact fun _ h => rchP_lt h | apply clm_lt))) gX3_targetOf_X3_calmerOf rfl rfl rfl 3 (by decide +kernel) (by decide) (by decide) (q0 := 0) rfl rfl rfl [0, 1] [] rfl (by decide) rfl (by decide) (by decide) rfl rfl (Nat.le_of_ble_eq_true rfl) dX3_targetOf_12 (fun r_3 w_4 hp => ?_)
  obtain ⟨rfl, rfl⟩ := hp
  refine g_eq (st' := [.int (nI (clm sw (y * 12 + x) (rchP (nI x) ((nI y) - (nI 1)))))]) (ws' := [(m0, .inr (3, [.ref w0, .ref h0, .ref m1, .ref m2, .ref m3])), (m1, .inl (tyI D, 144, .inl sw))]) rfl rfl rfl ?_
  refine g_istore_n (L' := [(0, .ref m0), (1, .int (nI x)), (2, .int (nI y)), (3, .int (nI (clm sw (y * 12 + x) (rchP (nI x) ((nI y) - (nI 1))))))]) O dX3_targetOf_15 rfl (by decide) [1, 2, 3, 0] rfl ?_
  refine g_aload_n O dX3_targetOf_16 0 rfl rfl ?_
  refine g_iload_n O dX3_targetOf_17 3 rfl rfl ?_
  refine g_iload_n O dX3_targetOf_18 1 rfl rfl ?_
  refine g_iconst (x := (nI 1)) O dX3_targetOf_19 (by decide +kernel) ?_
  refine g_isub O dX3_targetOf_20 ?_
  refine g_iload_n O dX3_targetOf_21 2 rfl rfl ?_
  refine g_callV (As := [.int (nI (clm sw (y * 12 + x) (rchP (nI x) ((nI y) - (nI 1))))), .int ((nI x) - (nI 1)), .int (nI y)]) (wr := []) O (kX3_calmerOf l D z m0 m1 m2 m3 w0 h0 sw (clm sw (y * 12 + x) (rchP (nI x) ((nI y) - (nI 1)))) ((nI x) - (nI 1)) (nI y) (by repeat (first | omega | exact fun _ h => rchP_lt h | apply clm_lt))) gX3_targetOf_X3_calmerOf rfl rfl rfl 3 (by decide +kernel) (by decide) (by decide) (q0 := 0) rfl rfl rfl [0, 1] [] rfl (by decide) rfl (by decide) (by decide) rfl rfl (Nat.le_of_ble_eq_true rfl) dX3_targetOf_22 (fun r_5 w_6 hp => ?_)
  obtain ⟨rfl, rfl⟩ := hp
  refine g_eq (st' := [.int (nI (clm sw (clm sw (y * 12 + x) (rchP (nI x) ((nI y) - (nI 1)))) (rchP ((nI x) - (nI 1)) (nI y))))]) (ws' := [(m0, .inr (3, [.ref w0, .ref h0, .ref m1, .ref m2, .ref m3])), (m1, .inl (tyI D, 144, .inl sw))]) rfl rfl rfl ?_
  refine g_istore_n (L' := [(0, .ref m0), (1, .int (nI x)), (2, .int (nI y)), (3, .int (nI (clm sw (clm sw (y * 12 + x) (rchP (nI x) ((nI y) - (nI 1)))) (rchP ((nI x) - (nI 1)) (nI y)))))]) O dX3_targetOf_25 rfl (by decide) [1, 2, 3, 0] rfl ?_
  refine g_aload_n O dX3_targetOf_26 0 rfl rfl ?_
  refine g_iload_n O dX3_targetOf_27 3 rfl rfl ?_
  refine g_iload_n O dX3_targetOf_28 1 rfl rfl ?_
  refine g_iconst (x := (nI 1)) O dX3_targetOf_29 (by decide +kernel) ?_
  refine g_iaddN O dX3_targetOf_30 ?_
  refine g_iload_n O dX3_targetOf_31 2 rfl rfl ?_
  refine g_callV (As := [.int (nI (clm sw (clm sw (y * 12 + x) (rchP (nI x) ((nI y) - (nI 1)))) (rchP ((nI x) - (nI 1)) (nI y)))), .int (nI (x + 1)), .int (nI y)]) (wr := []) O (kX3_calmerOf l D z m0 m1 m2 m3 w0 h0 sw (clm sw (clm sw (y * 12 + x) (rchP (nI x) ((nI y) - (nI 1)))) (rchP ((nI x) - (nI 1)) (nI y))) (nI (x + 1)) (nI y) (by repeat (first | omega | exact fun _ h => rchP_lt h | apply clm_lt))) gX3_targetOf_X3_calmerOf rfl rfl rfl 3 (by decide +kernel) (by decide) (by decide) (q0 := 0) rfl rfl rfl [0, 1] [] rfl (by decide) rfl (by decide) (by decide) rfl rfl (Nat.le_of_ble_eq_true rfl) dX3_targetOf_32 (fun r_7 w_8 hp => ?_)
  obtain ⟨rfl, rfl⟩ := hp
  refine g_eq (st' := [.int (nI (clm sw (clm sw (clm sw (y * 12 + x) (rchP (nI x) ((nI y) - (nI 1)))) (rchP ((nI x) - (nI 1)) (nI y))) (rchP (nI (x + 1)) (nI y))))]) (ws' := [(m0, .inr (3, [.ref w0, .ref h0, .ref m1, .ref m2, .ref m3])), (m1, .inl (tyI D, 144, .inl sw))]) rfl rfl rfl ?_
  refine g_istore_n (L' := [(0, .ref m0), (1, .int (nI x)), (2, .int (nI y)), (3, .int (nI (clm sw (clm sw (clm sw (y * 12 + x) (rchP (nI x) ((nI y) - (nI 1)))) (rchP ((nI x) - (nI 1)) (nI y))) (rchP (nI (x + 1)) (nI y)))))]) O dX3_targetOf_35 rfl (by decide) [1, 2, 3, 0] rfl ?_
  refine g_aload_n O dX3_targetOf_36 0 rfl rfl ?_
  refine g_iload_n O dX3_targetOf_37 3 rfl rfl ?_
  refine g_iload_n O dX3_targetOf_38 1 rfl rfl ?_
  refine g_iload_n O dX3_targetOf_39 2 rfl rfl ?_
  refine g_iconst (x := (nI 1)) O dX3_targetOf_40 (by decide +kernel) ?_
  refine g_iaddN O dX3_targetOf_41 ?_
  refine g_callV (As := [.int (nI (clm sw (clm sw (clm sw (y * 12 + x) (rchP (nI x) ((nI y) - (nI 1)))) (rchP ((nI x) - (nI 1)) (nI y))) (rchP (nI (x + 1)) (nI y)))), .int (nI x), .int (nI (y + 1))]) (wr := []) O (kX3_calmerOf l D z m0 m1 m2 m3 w0 h0 sw (clm sw (clm sw (clm sw (y * 12 + x) (rchP (nI x) ((nI y) - (nI 1)))) (rchP ((nI x) - (nI 1)) (nI y))) (rchP (nI (x + 1)) (nI y))) (nI x) (nI (y + 1)) (by repeat (first | omega | exact fun _ h => rchP_lt h | apply clm_lt))) gX3_targetOf_X3_calmerOf rfl rfl rfl 3 (by decide +kernel) (by decide) (by decide) (q0 := 0) rfl rfl rfl [0, 1] [] rfl (by decide) rfl (by decide) (by decide) rfl rfl (Nat.le_of_ble_eq_true rfl) dX3_targetOf_42 (fun r_9 w_10 hp => ?_)
  obtain ⟨rfl, rfl⟩ := hp
  refine g_eq (st' := [.int (nI (clm sw (clm sw (clm sw (clm sw (y * 12 + x) (rchP (nI x) ((nI y) - (nI 1)))) (rchP ((nI x) - (nI 1)) (nI y))) (rchP (nI (x + 1)) (nI y))) (rchP (nI x) (nI (y + 1)))))]) (ws' := [(m0, .inr (3, [.ref w0, .ref h0, .ref m1, .ref m2, .ref m3])), (m1, .inl (tyI D, 144, .inl sw))]) rfl rfl rfl ?_
  exact E 45 _ (nI (clm sw (clm sw (clm sw (clm sw (y * 12 + x) (rchP (nI x) ((nI y) - (nI 1)))) (rchP ((nI x) - (nI 1)) (nI y))) (rchP (nI (x + 1)) (nI y))) (rchP (nI x) (nI (y + 1))))) _ dX3_targetOf_45 ⟨rfl, rfl⟩
theorem hiX3_shake_X3 : ∀ w ∈ wsX30, w ∈ wsX3_shake := by decide +kernel
theorem hiX3_shake_X5 : ∀ w ∈ wsX50, w ∈ wsX3_shake := by decide +kernel
set_option maxHeartbeats 2000000 in
set_option maxRecDepth 100000 in
/-- half of the grains go -/
theorem kX3_shake (l : Launch) (D : va_G) (z : Nat × Nat × Nat) (m0 : Nat) (m1 : Nat) (m2 : Nat) (m3 : Nat) (w0 : Nat) (h0 : Nat) (h1 : Nat) (h2 : Nat) (h3 : Nat) (h4 : Nat) (h5 : Nat) (s : SV) (sw : Nat → Int32) (tg : Nat → Nat) (ar : Nat → Nat) (g : Nat → Nat) (fl : Int32) (p : Nat) (hp : p < 144) (hg0 : 0 < g p) (hg : g p < 1073741824) (ht : tg p < 144) : CM l yX3_shake wsX3_shake ({ frames := 2, cells := 0, slots := 0, locals := 42 } : Room) D z [.ref m0, .int (nI p)] [(m0, .inr (3, [.ref w0, .ref h0, .ref m1, .ref m2, .ref m3])), (m1, .inl (tyI D, 144, .inl sw)), (m2, .inl (tyI D, 144, .inl (nf tg))), (m3, .inl (tyI D, 144, .inl (nf ar))), (h0, .inr (5, [.ref h1, .ref h2, .ref h3, .int (nI (sv_nc s)), .ref h4, .ref h5, .int (sv_la s), .int (sv_st s), .int (sv_sw s), .int fl, .int (sv_sk s), .int (sv_mu s)])), (h1, .inl (tyI D, 144, .inl (nf g))), (h4, .inl (tyI D, 4, .inl (sv_se s)))] (fun r_ w_ => r_ = none ∧ w_ = [(m0, .inr (3, [.ref w0, .ref h0, .ref m1, .ref m2, .ref m3])), (m1, .inl (tyI D, 144, .inl sw)), (m2, .inl (tyI D, 144, .inl (nf tg))), (m3, .inl (tyI D, 144, .inl (nf (shA sw (sv_se s) tg g ar p)))), (h0, .inr (5, [.ref h1, .ref h2, .ref h3, .int (nI (sv_nc s)), .ref h4, .ref h5, .int (sv_la s), .int (sv_st s), .int (sv_sw s), .int (if flB sw (sv_se s) p = true then fl + nI 1 else fl), .int (sv_sk s), .int (sv_mu s)])), (h1, .inl (tyI D, 144, .inl (nf (upf g p (g p - (g p + 1) / 2))))), (h4, .inl (tyI D, 4, .inl (sv_se s)))]) 0 0 := by
  refine CM_void (own := RX3) (cc := cX3_shake) (maxL := 4) (L0 := [(0, .ref m0), (1, .int (nI p))]) (by decide) rfl rfl (Nat.le_of_ble_eq_true rfl) rfl (fun X O E => ?_)
  refine g_aload_n O dX3_shake_0 0 rfl rfl ?_
  refine g_get O hiX3_shake_X3 0 rfl rfl 3 (by decide) (by decide +kernel) rfl dX3_shake_1 ?_
  refine g_iload_n O dX3_shake_4 1 rfl rfl ?_
  refine g_ialdN O 2 rfl (by omega) (by omega) dX3_shake_5 ?_
  refine g_istore_n (L' := [(0, .ref m0), (1, .int (nI p)), (2, .int (nI (tg p)))]) O dX3_shake_6 rfl (by decide) [1, 2, 0] rfl ?_
  refine g_iload_n O dX3_shake_7 2 rfl rfl ?_
  refine g_if_ltN (tgt := 18) O (by omega) dX3_shake_8 (by decide) ?_
  refine g_iload_n O dX3_shake_11 2 rfl rfl ?_
  refine g_sipush (x := (nI 144)) O dX3_shake_12 (by decide +kernel) ?_
  refine g_icmp_ltN (tgt := 19) O (by omega) (by omega) dX3_shake_15 (by decide) (fun c_2 => ?_) (fun c_2 => (by exfalso; omega))
  refine g_aload_n O dX3_shake_19 0 rfl rfl ?_
  refine g_get O hiX3_shake_X3 0 rfl rfl 1 (by decide) (by decide +kernel) rfl dX3_shake_20 ?_
  refine g_getN O hiX3_shake_X5 4 rfl rfl 0 (by decide) 11 rfl rfl dX3_shake_23 ?_
  refine g_iload_n O dX3_shake_26 1 rfl rfl ?_
  refine g_ialdN O 5 rfl (by omega) (by omega) dX3_shake_27 ?_
  refine g_iconst (x := (nI 1)) O dX3_shake_28 (by decide +kernel) ?_
  refine g_iaddN O dX3_shake_29 ?_
  refine g_iconst (x := (nI 2)) O dX3_shake_30 (by decide +kernel) ?_
  refine g_idivN O (by omega) (by omega) (by omega) dX3_shake_31 ?_
  refine g_istore_n (L' := [(0, .ref m0), (1, .int (nI p)), (2, .int (nI (tg p))), (3, .int (nI (((g p) + 1) / 2)))]) O dX3_shake_32 rfl (by decide) [1, 2, 3, 0] rfl ?_
  refine g_aload_n O dX3_shake_33 0 rfl rfl ?_
  refine g_get O hiX3_shake_X3 0 rfl rfl 1 (by decide) (by decide +kernel) rfl dX3_shake_34 ?_
  refine g_getN O hiX3_shake_X5 4 rfl rfl 0 (by decide) 11 rfl rfl dX3_shake_37 ?_
  refine g_iload_n O dX3_shake_40 1 rfl rfl ?_
  refine g_dup2 O dX3_shake_41 rfl rfl ?_
  refine g_ialdN O 5 rfl (by omega) (by omega) dX3_shake_42 ?_
  refine g_iload_n O dX3_shake_43 3 rfl rfl ?_
  refine g_isubN O (by omega) dX3_shake_44 ?_
  refine g_iastN (f' := (nf (upf g p ((g p) - (((g p) + 1) / 2))))) (ws' := [(m0, .inr (3, [.ref w0, .ref h0, .ref m1, .ref m2, .ref m3])), (m1, .inl (tyI D, 144, .inl sw)), (m2, .inl (tyI D, 144, .inl (nf tg))), (m3, .inl (tyI D, 144, .inl (nf ar))), (h0, .inr (5, [.ref h1, .ref h2, .ref h3, .int (nI (sv_nc s)), .ref h4, .ref h5, .int (sv_la s), .int (sv_st s), .int (sv_sw s), .int fl, .int (sv_sk s), .int (sv_mu s)])), (h1, .inl (tyI D, 144, .inl (nf (upf g p ((g p) - (((g p) + 1) / 2)))))), (h4, .inl (tyI D, 4, .inl (sv_se s)))]) O 5 rfl (by omega) (by omega) dX3_shake_45 (nf_upd _ _ _) rfl ?_
  refine g_iload_n O dX3_shake_46 1 rfl rfl ?_
  refine g_callS (As := [.int (nI p)]) (wr := [(m0, .inr (3, [.ref w0, .ref h0, .ref m1, .ref m2, .ref m3])), (m1, .inl (tyI D, 144, .inl sw)), (m2, .inl (tyI D, 144, .inl (nf tg))), (m3, .inl (tyI D, 144, .inl (nf ar))), (h0, .inr (5, [.ref h1, .ref h2, .ref h3, .int (nI (sv_nc s)), .ref h4, .ref h5, .int (sv_la s), .int (sv_st s), .int (sv_sw s), .int fl, .int (sv_sk s), .int (sv_mu s)])), (h1, .inl (tyI D, 144, .inl (nf (upf g p ((g p) - (((g p) + 1) / 2)))))), (h4, .inl (tyI D, 4, .inl (sv_se s)))]) O (kX3_isAtEdge l D z p (by first | assumption | omega)) gX3_shake_X3_isAtEdge rfl rfl rfl 1 (by decide +kernel) (by decide) (by decide) [] [0, 1, 2, 3, 4, 5, 6] rfl (by decide) rfl (by decide) (by decide) rfl rfl (Nat.le_of_ble_eq_true rfl) dX3_shake_47 (fun r_3 w_4 hp => ?_)
  obtain ⟨rfl, rfl⟩ := hp
  refine g_eq (st' := [.int (bB (edB p))]) (ws' := [(m0, .inr (3, [.ref w0, .ref h0, .ref m1, .ref m2, .ref m3])), (m1, .inl (tyI D, 144, .inl sw)), (m2, .inl (tyI D, 144, .inl (nf tg))), (m3, .inl (tyI D, 144, .inl (nf ar))), (h0, .inr (5, [.ref h1, .ref h2, .ref h3, .int (nI (sv_nc s)), .ref h4, .ref h5, .int (sv_la s), .int (sv_st s), .int (sv_sw s), .int fl, .int (sv_sk s), .int (sv_mu s)])), (h1, .inl (tyI D, 144, .inl (nf (upf g p ((g p) - (((g p) + 1) / 2)))))), (h4, .inl (tyI D, 4, .inl (sv_se s)))]) rfl rfl rfl ?_
  refine g_if_eqB (tgt := 87) O dX3_shake_50 (by decide) (fun c_5 => ?_) (fun c_5 => ?_)
  ·
    have hf : flB sw (sv_se s) p = false := by simp only [flB]; rw [c_5]; rfl
    refine g_aload_n O dX3_shake_87 0 rfl rfl ?_
    refine g_get O hiX3_shake_X3 0 rfl rfl 4 (by decide) (by decide +kernel) rfl dX3_shake_88 ?_
    refine g_iload_n O dX3_shake_91 2 rfl rfl ?_
    refine g_dup2 O dX3_shake_92 rfl rfl ?_
    refine g_ialdN O 3 rfl (by omega) (by omega) dX3_shake_93 ?_
    refine g_iload_n O dX3_shake_94 3 rfl rfl ?_
    refine g_iaddN O dX3_shake_95 ?_
    refine g_iastN (f' := (nf (upf ar (tg p) ((ar (tg p)) + (((g p) + 1) / 2))))) (ws' := [(m0, .inr (3, [.ref w0, .ref h0, .ref m1, .ref m2, .ref m3])), (m1, .inl (tyI D, 144, .inl sw)), (m2, .inl (tyI D, 144, .inl (nf tg))), (m3, .inl (tyI D, 144, .inl (nf (upf ar (tg p) ((ar (tg p)) + (((g p) + 1) / 2)))))), (h0, .inr (5, [.ref h1, .ref h2, .ref h3, .int (nI (sv_nc s)), .ref h4, .ref h5, .int (sv_la s), .int (sv_st s), .int (sv_sw s), .int fl, .int (sv_sk s), .int (sv_mu s)])), (h1, .inl (tyI D, 144, .inl (nf (upf g p ((g p) - (((g p) + 1) / 2)))))), (h4, .inl (tyI D, 4, .inl (sv_se s)))]) O 3 rfl (by omega) (by omega) dX3_shake_96 (nf_upd _ _ _) rfl ?_
    exact E 97 _ _ dX3_shake_97 (by unfold shA; rw [hf]; exact ⟨rfl, rfl⟩)
  ·
    refine g_aload_n O dX3_shake_53 0 rfl rfl ?_
    refine g_get O hiX3_shake_X3 0 rfl rfl 2 (by decide) (by decide +kernel) rfl dX3_shake_54 ?_
    refine g_iload_n O dX3_shake_57 1 rfl rfl ?_
    refine g_ialdN O 1 rfl (by omega) (by omega) dX3_shake_58 ?_
    refine g_aload_n O dX3_shake_59 0 rfl rfl ?_
    refine g_get O hiX3_shake_X3 0 rfl rfl 1 (by decide) (by decide +kernel) rfl dX3_shake_60 ?_
    refine g_getN O hiX3_shake_X5 4 rfl rfl 4 (by decide) 20 rfl rfl dX3_shake_63 ?_
    refine g_iconst (x := (nI 3)) O dX3_shake_66 (by decide +kernel) ?_
    refine g_ialdN O 6 rfl (by omega) (by omega) dX3_shake_67 ?_
    refine g_icmp_lt (tgt := 87) O dX3_shake_68 (by decide) (fun c_6 => ?_) (fun c_6 => ?_)
    ·
      have hf : flB sw (sv_se s) p = false := by simp only [flB]; rw [decide_eq_false (Int32.not_le.mpr c_6)]; simp
      refine g_aload_n O dX3_shake_87 0 rfl rfl ?_
      refine g_get O hiX3_shake_X3 0 rfl rfl 4 (by decide) (by decide +kernel) rfl dX3_shake_88 ?_
      refine g_iload_n O dX3_shake_91 2 rfl rfl ?_
      refine g_dup2 O dX3_shake_92 rfl rfl ?_
      refine g_ialdN O 3 rfl (by omega) (by omega) dX3_shake_93 ?_
      refine g_iload_n O dX3_shake_94 3 rfl rfl ?_
      refine g_iaddN O dX3_shake_95 ?_
      refine g_iastN (f' := (nf (upf ar (tg p) ((ar (tg p)) + (((g p) + 1) / 2))))) (ws' := [(m0, .inr (3, [.ref w0, .ref h0, .ref m1, .ref m2, .ref m3])), (m1, .inl (tyI D, 144, .inl sw)), (m2, .inl (tyI D, 144, .inl (nf tg))), (m3, .inl (tyI D, 144, .inl (nf (upf ar (tg p) ((ar (tg p)) + (((g p) + 1) / 2)))))), (h0, .inr (5, [.ref h1, .ref h2, .ref h3, .int (nI (sv_nc s)), .ref h4, .ref h5, .int (sv_la s), .int (sv_st s), .int (sv_sw s), .int fl, .int (sv_sk s), .int (sv_mu s)])), (h1, .inl (tyI D, 144, .inl (nf (upf g p ((g p) - (((g p) + 1) / 2)))))), (h4, .inl (tyI D, 4, .inl (sv_se s)))]) O 3 rfl (by omega) (by omega) dX3_shake_96 (nf_upd _ _ _) rfl ?_
      exact E 97 _ _ dX3_shake_97 (by unfold shA; rw [hf]; exact ⟨rfl, rfl⟩)
    ·
      have hf : flB sw (sv_se s) p = true := by simp only [flB]; rw [decide_eq_true (Int32.not_lt.mp c_6)]; simp_all
      refine g_iinc (L' := [(0, .ref m0), (1, .int (nI p)), (2, .int (nI (tg p))), (3, .int (nI ((((g p) + 1) / 2) - 1)))]) O dX3_shake_71 3 rfl (nI_dec (by omega)) (by decide) [1, 2, 3, 0] rfl ?_
      refine g_aload_n O dX3_shake_74 0 rfl rfl ?_
      refine g_get O hiX3_shake_X3 0 rfl rfl 1 (by decide) (by decide +kernel) rfl dX3_shake_75 ?_
      refine g_dup O dX3_shake_78 rfl ?_
      refine g_getN O hiX3_shake_X5 4 rfl rfl 9 (by decide) 26 rfl rfl dX3_shake_79 ?_
      refine g_iconst (x := (nI 1)) O dX3_shake_82 (by decide +kernel) ?_
      refine g_iadd O dX3_shake_83 ?_
      refine g_putN (ws' := [(m0, .inr (3, [.ref w0, .ref h0, .ref m1, .ref m2, .ref m3])), (m1, .inl (tyI D, 144, .inl sw)), (m2, .inl (tyI D, 144, .inl (nf tg))), (m3, .inl (tyI D, 144, .inl (nf ar))), (h0, .inr (5, [.ref h1, .ref h2, .ref h3, .int (nI (sv_nc s)), .ref h4, .ref h5, .int (sv_la s), .int (sv_st s), .int (sv_sw s), .int (fl + (nI 1)), .int (sv_sk s), .int (sv_mu s)])), (h1, .inl (tyI D, 144, .inl (nf (upf g p ((g p) - (((g p) + 1) / 2)))))), (h4, .inl (tyI D, 4, .inl (sv_se s)))]) O hiX3_shake_X5 tyX5 tyX5_ok nmX5 4 rfl rfl 9 (by decide) 26 rfl rfl (tyX5_ok 9 (by decide)) rfl rfl (Nat.le_of_ble_eq_true rfl) dX3_shake_84 rfl ?_
      refine g_aload_n O dX3_shake_87 0 rfl rfl ?_
      refine g_get O hiX3_shake_X3 0 rfl rfl 4 (by decide) (by decide +kernel) rfl dX3_shake_88 ?_
      refine g_iload_n O dX3_shake_91 2 rfl rfl ?_
      refine g_dup2 O dX3_shake_92 rfl rfl ?_
      refine g_ialdN O 3 rfl (by omega) (by omega) dX3_shake_93 ?_
      refine g_iload_n O dX3_shake_94 3 rfl rfl ?_
      refine g_iaddN O dX3_shake_95 ?_
      refine g_iastN (f' := (nf (upf ar (tg p) ((ar (tg p)) + ((((g p) + 1) / 2) - 1))))) (ws' := [(m0, .inr (3, [.ref w0, .ref h0, .ref m1, .ref m2, .ref m3])), (m1, .inl (tyI D, 144, .inl sw)), (m2, .inl (tyI D, 144, .inl (nf tg))), (m3, .inl (tyI D, 144, .inl (nf (upf ar (tg p) ((ar (tg p)) + ((((g p) + 1) / 2) - 1)))))), (h0, .inr (5, [.ref h1, .ref h2, .ref h3, .int (nI (sv_nc s)), .ref h4, .ref h5, .int (sv_la s), .int (sv_st s), .int (sv_sw s), .int (fl + (nI 1)), .int (sv_sk s), .int (sv_mu s)])), (h1, .inl (tyI D, 144, .inl (nf (upf g p ((g p) - (((g p) + 1) / 2)))))), (h4, .inl (tyI D, 4, .inl (sv_se s)))]) O 3 rfl (by omega) (by omega) dX3_shake_96 (nf_upd _ _ _) rfl ?_
      exact E 97 _ _ dX3_shake_97 (by unfold shA; rw [hf]; exact ⟨rfl, rfl⟩)
theorem hiX3_strokeOnce_X3 : ∀ w ∈ wsX30, w ∈ wsX3_strokeOnce := by decide +kernel
theorem hiX3_strokeOnce_X5 : ∀ w ∈ wsX50, w ∈ wsX3_strokeOnce := by decide +kernel
set_option maxHeartbeats 2000000 in
set_option maxRecDepth 100000 in
/-- one stroke -/
theorem kX3_strokeOnce (l : Launch) (D : va_G) (z : Nat × Nat × Nat) (m0 : Nat) (m1 : Nat) (m2 : Nat) (m3 : Nat) (w0 : Nat) (h0 : Nat) (h1 : Nat) (h2 : Nat) (h3 : Nat) (h4 : Nat) (h5 : Nat) (s : SV) (sw : Nat → Int32) (tg : Nat → Nat) (ar : Nat → Nat) (g : Nat → Nat) (fl : Int32) (hg : ∀ p, p < 144 → g p < 1073741824) (ht : ∀ p, p < 144 → tg p < 144) : CM l yX3_strokeOnce wsX3_strokeOnce ({ frames := 3, cells := 0, slots := 0, locals := 65 } : Room) D z [.ref m0] [(m0, .inr (3, [.ref w0, .ref h0, .ref m1, .ref m2, .ref m3])), (m1, .inl (tyI D, 144, .inl sw)), (m2, .inl (tyI D, 144, .inl (nf tg))), (m3, .inl (tyI D, 144, .inl (nf ar))), (h0, .inr (5, [.ref h1, .ref h2, .ref h3, .int (nI (sv_nc s)), .ref h4, .ref h5, .int (sv_la s), .int (sv_st s), .int (sv_sw s), .int fl, .int (sv_sk s), .int (sv_mu s)])), (h1, .inl (tyI D, 144, .inl (nf g))), (h4, .inl (tyI D, 4, .inl (sv_se s)))] (fun r_ w_ => r_ = none ∧ w_ = [(m0, .inr (3, [.ref w0, .ref h0, .ref m1, .ref m2, .ref m3])), (m1, .inl (tyI D, 144, .inl sw)), (m2, .inl (tyI D, 144, .inl (nf tg))), (m3, .inl (tyI D, 144, .inl (nf ((soF sw (sv_se s) tg g fl 144).2.1)))), (h0, .inr (5, [.ref h1, .ref h2, .ref h3, .int (nI (sv_nc s)), .ref h4, .ref h5, .int (sv_la s), .int (sv_st s), .int (sv_sw s), .int (onL sw (sv_se s) tg g fl), .int (sv_sk s), .int (sv_mu s)])), (h1, .inl (tyI D, 144, .inl (nf (onG sw (sv_se s) tg g fl)))), (h4, .inl (tyI D, 4, .inl (sv_se s)))]) 0 0 := by
  refine CM_void (own := RX3) (cc := cX3_strokeOnce) (maxL := 2) (L0 := [(0, .ref m0)]) (by decide) rfl rfl (Nat.le_of_ble_eq_true rfl) rfl (fun X O E => ?_)
  refine g_iconst (x := (nI 0)) O dX3_strokeOnce_0 (by decide +kernel) ?_
  refine g_istore_n (L' := [(0, .ref m0), (1, .int (nI 0))]) O dX3_strokeOnce_1 rfl (by decide) [1, 0] rfl ?_
  have J2 : ∀ (n_ : Nat), ∀ (i_ : Nat) (A_ : Nat → Nat) (hi_ : i_ ≤ 144) (hF : ∀ j, j < i_ → A_ j = 0), 144 - i_ < n_ → G X 0 0 2 [(0, .ref m0), (1, .int (nI i_))] [] [(m0, .inr (3, [.ref w0, .ref h0, .ref m1, .ref m2, .ref m3])), (m1, .inl (tyI D, 144, .inl sw)), (m2, .inl (tyI D, 144, .inl (nf tg))), (m3, .inl (tyI D, 144, .inl (nf A_))), (h0, .inr (5, [.ref h1, .ref h2, .ref h3, .int (nI (sv_nc s)), .ref h4, .ref h5, .int (sv_la s), .int (sv_st s), .int (sv_sw s), .int fl, .int (sv_sk s), .int (sv_mu s)])), (h1, .inl (tyI D, 144, .inl (nf g))), (h4, .inl (tyI D, 4, .inl (sv_se s)))] := by
    intro n_
    induction n_ with
    | zero => intro i_ A_ hi_ hF hm_; exact absurd hm_ (Nat.not_lt_zero _)
    | succ n_ ih_ =>
      intro i_ A_ hi_ hF hm_
      refine g_iload_n O dX3_strokeOnce_2 1 rfl rfl ?_
      refine g_sipush (x := (nI 144)) O dX3_strokeOnce_3 (by decide +kernel) ?_
      refine g_icmp_geN (tgt := 22) O (by omega) (by omega) dX3_strokeOnce_6 (by decide) (fun c_1 => ?_) (fun c_1 => ?_)
      ·
        refine g_arr (f' := nf (fun _ => 0)) (ws' := [(m0, .inr (3, [.ref w0, .ref h0, .ref m1, .ref m2, .ref m3])), (m1, .inl (tyI D, 144, .inl sw)), (m2, .inl (tyI D, 144, .inl (nf tg))), (m3, .inl (tyI D, 144, .inl (nf (fun _ => 0)))), (h0, .inr (5, [.ref h1, .ref h2, .ref h3, .int (nI (sv_nc s)), .ref h4, .ref h5, .int (sv_la s), .int (sv_st s), .int (sv_sw s), .int fl, .int (sv_sk s), .int (sv_mu s)])), (h1, .inl (tyI D, 144, .inl (nf g))), (h4, .inl (tyI D, 4, .inl (sv_se s)))]) 3 rfl (fun j hj => by show nI (A_ j) = nI 0; rw [hF j (by omega)]) rfl ?_
        refine g_iconst (x := (nI 0)) O dX3_strokeOnce_22 (by decide +kernel) ?_
        refine g_istore_n (L' := [(0, .ref m0), (1, .int (nI 0))]) O dX3_strokeOnce_23 rfl (by decide) [1, 0] rfl ?_
        have J24 : ∀ (n_ : Nat), ∀ (i_ : Nat) (G_ : Nat → Nat) (A_ : Nat → Nat) (f_ : Int32) (hi_ : i_ ≤ 144) (e1_ : G_ = (soF sw (sv_se s) tg g fl i_).1) (e2_ : A_ = (soF sw (sv_se s) tg g fl i_).2.1) (e3_ : f_ = (soF sw (sv_se s) tg g fl i_).2.2), 144 - i_ < n_ → G X 0 0 24 [(0, .ref m0), (1, .int (nI i_))] [] [(m0, .inr (3, [.ref w0, .ref h0, .ref m1, .ref m2, .ref m3])), (m1, .inl (tyI D, 144, .inl sw)), (m2, .inl (tyI D, 144, .inl (nf tg))), (m3, .inl (tyI D, 144, .inl (nf A_))), (h0, .inr (5, [.ref h1, .ref h2, .ref h3, .int (nI (sv_nc s)), .ref h4, .ref h5, .int (sv_la s), .int (sv_st s), .int (sv_sw s), .int f_, .int (sv_sk s), .int (sv_mu s)])), (h1, .inl (tyI D, 144, .inl (nf G_))), (h4, .inl (tyI D, 4, .inl (sv_se s)))] := by
          intro n_
          induction n_ with
          | zero => intro i_ G_ A_ f_ hi_ e1_ e2_ e3_ hm_; exact absurd hm_ (Nat.not_lt_zero _)
          | succ n_ ih_ =>
            intro i_ G_ A_ f_ hi_ e1_ e2_ e3_ hm_
            refine g_iload_n O dX3_strokeOnce_24 1 rfl rfl ?_
            refine g_sipush (x := (nI 144)) O dX3_strokeOnce_25 (by decide +kernel) ?_
            refine g_icmp_geN (tgt := 72) O (by omega) (by omega) dX3_strokeOnce_28 (by decide) (fun c_2 => ?_) (fun c_2 => ?_)
            ·
              obtain rfl : i_ = 144 := by omega
              subst e1_
              subst e2_
              subst e3_
              refine g_iconst (x := (nI 0)) O dX3_strokeOnce_72 (by decide +kernel) ?_
              refine g_istore_n (L' := [(0, .ref m0), (1, .int (nI 0))]) O dX3_strokeOnce_73 rfl (by decide) [1, 0] rfl ?_
              have J74 : ∀ (n_ : Nat), ∀ (i_ : Nat) (hi_ : i_ ≤ 144), 144 - i_ < n_ → G X 0 0 74 [(0, .ref m0), (1, .int (nI i_))] [] [(m0, .inr (3, [.ref w0, .ref h0, .ref m1, .ref m2, .ref m3])), (m1, .inl (tyI D, 144, .inl sw)), (m2, .inl (tyI D, 144, .inl (nf tg))), (m3, .inl (tyI D, 144, .inl (nf ((soF sw (sv_se s) tg g fl 144).2.1)))), (h0, .inr (5, [.ref h1, .ref h2, .ref h3, .int (nI (sv_nc s)), .ref h4, .ref h5, .int (sv_la s), .int (sv_st s), .int (sv_sw s), .int ((soF sw (sv_se s) tg g fl 144).2.2), .int (sv_sk s), .int (sv_mu s)])), (h1, .inl (tyI D, 144, .inl (nf (adF (soF sw (sv_se s) tg g fl 144).1 (soF sw (sv_se s) tg g fl 144).2.1 i_)))), (h4, .inl (tyI D, 4, .inl (sv_se s)))] := by
                intro n_
                induction n_ with
                | zero => intro i_ hi_ hm_; exact absurd hm_ (Nat.not_lt_zero _)
                | succ n_ ih_ =>
                  intro i_ hi_ hm_
                  refine g_iload_n O dX3_strokeOnce_74 1 rfl rfl ?_
                  refine g_sipush (x := (nI 144)) O dX3_strokeOnce_75 (by decide +kernel) ?_
                  refine g_icmp_geN (tgt := 105) O (by omega) (by omega) dX3_strokeOnce_78 (by decide) (fun c_3 => ?_) (fun c_3 => ?_)
                  ·
                    obtain rfl : i_ = 144 := by omega
                    exact E 105 _ _ dX3_strokeOnce_105 ⟨rfl, rfl⟩
                  ·
                    refine g_aload_n O dX3_strokeOnce_81 0 rfl rfl ?_
                    refine g_get O hiX3_strokeOnce_X3 0 rfl rfl 1 (by decide) (by decide +kernel) rfl dX3_strokeOnce_82 ?_
                    refine g_getN O hiX3_strokeOnce_X5 4 rfl rfl 0 (by decide) 11 rfl rfl dX3_strokeOnce_85 ?_
                    refine g_iload_n O dX3_strokeOnce_88 1 rfl rfl ?_
                    refine g_dup2 O dX3_strokeOnce_89 rfl rfl ?_
                    refine g_ialdN O 5 rfl (by omega) (by omega) dX3_strokeOnce_90 ?_
                    refine g_aload_n O dX3_strokeOnce_91 0 rfl rfl ?_
                    refine g_get O hiX3_strokeOnce_X3 0 rfl rfl 4 (by decide) (by decide +kernel) rfl dX3_strokeOnce_92 ?_
                    refine g_iload_n O dX3_strokeOnce_95 1 rfl rfl ?_
                    refine g_ialdN O 3 rfl (by omega) (by omega) dX3_strokeOnce_96 ?_
                    refine g_iaddN O dX3_strokeOnce_97 ?_
                    refine g_iastN (f' := (nf (upf (adF (soF sw (sv_se s) tg g fl 144).1 (soF sw (sv_se s) tg g fl 144).2.1 i_) i_ (((adF (soF sw (sv_se s) tg g fl 144).1 (soF sw (sv_se s) tg g fl 144).2.1 i_) i_) + (((soF sw (sv_se s) tg g fl 144).2.1) i_))))) (ws' := [(m0, .inr (3, [.ref w0, .ref h0, .ref m1, .ref m2, .ref m3])), (m1, .inl (tyI D, 144, .inl sw)), (m2, .inl (tyI D, 144, .inl (nf tg))), (m3, .inl (tyI D, 144, .inl (nf ((soF sw (sv_se s) tg g fl 144).2.1)))), (h0, .inr (5, [.ref h1, .ref h2, .ref h3, .int (nI (sv_nc s)), .ref h4, .ref h5, .int (sv_la s), .int (sv_st s), .int (sv_sw s), .int ((soF sw (sv_se s) tg g fl 144).2.2), .int (sv_sk s), .int (sv_mu s)])), (h1, .inl (tyI D, 144, .inl (nf (upf (adF (soF sw (sv_se s) tg g fl 144).1 (soF sw (sv_se s) tg g fl 144).2.1 i_) i_ (((adF (soF sw (sv_se s) tg g fl 144).1 (soF sw (sv_se s) tg g fl 144).2.1 i_) i_) + (((soF sw (sv_se s) tg g fl 144).2.1) i_)))))), (h4, .inl (tyI D, 4, .inl (sv_se s)))]) O 5 rfl (by omega) (by omega) dX3_strokeOnce_98 (nf_upd _ _ _) rfl ?_
                    refine g_iincN (L' := [(0, .ref m0), (1, .int (nI (i_ + 1)))]) O dX3_strokeOnce_99 1 rfl (by decide) [1, 0] rfl ?_
                    refine g_goto (tgt := 74) O dX3_strokeOnce_102 (by decide) ?_
                    exact ih_ (i_ + 1) (by first | assumption | omega | rfl) (by omega)
              exact J74 _ 0 (Nat.zero_le _) (Nat.lt_succ_self _)
            ·
              have hGi : G_ i_ < 1073741824 := Nat.lt_of_le_of_lt (by rw [e1_]; exact soF_le _ _ _ _ _ _ _) (hg i_ c_2)
              refine g_aload_n O dX3_strokeOnce_31 0 rfl rfl ?_
              refine g_get O hiX3_strokeOnce_X3 0 rfl rfl 2 (by decide) (by decide +kernel) rfl dX3_strokeOnce_32 ?_
              refine g_iload_n O dX3_strokeOnce_35 1 rfl rfl ?_
              refine g_ialdN O 1 rfl (by omega) (by omega) dX3_strokeOnce_36 ?_
              refine g_aload_n O dX3_strokeOnce_37 0 rfl rfl ?_
              refine g_get O hiX3_strokeOnce_X3 0 rfl rfl 1 (by decide) (by decide +kernel) rfl dX3_strokeOnce_38 ?_
              refine g_getN O hiX3_strokeOnce_X5 4 rfl rfl 4 (by decide) 20 rfl rfl dX3_strokeOnce_41 ?_
              refine g_iconst (x := (nI 2)) O dX3_strokeOnce_44 (by decide +kernel) ?_
              refine g_ialdN O 6 rfl (by omega) (by omega) dX3_strokeOnce_45 ?_
              refine g_icmp_le (tgt := 66) O dX3_strokeOnce_46 (by decide) (fun c_4 => ?_) (fun c_4 => ?_)
              ·
                have hq : soF sw (sv_se s) tg g fl (i_ + 1) = (soF sw (sv_se s) tg g fl i_) := by simp only [soF]; rw [← e1_, if_neg (by simp only [goB]; rw [decide_eq_false (Int32.not_lt.mpr c_4)]; simp)]
                refine g_iincN (L' := [(0, .ref m0), (1, .int (nI (i_ + 1)))]) O dX3_strokeOnce_66 1 rfl (by decide) [1, 0] rfl ?_
                refine g_goto (tgt := 24) O dX3_strokeOnce_69 (by decide) ?_
                exact ih_ (i_ + 1) _ _ _ (by first | assumption | omega | rfl) (by rw [hq] <;> first | rfl | exact e1_) (by rw [hq] <;> first | rfl | exact e2_) (by rw [hq] <;> first | rfl | exact e3_) (by omega)
              ·
                have c_3 := c_4
                refine g_aload_n O dX3_strokeOnce_49 0 rfl rfl ?_
                refine g_get O hiX3_strokeOnce_X3 0 rfl rfl 1 (by decide) (by decide +kernel) rfl dX3_strokeOnce_50 ?_
                refine g_getN O hiX3_strokeOnce_X5 4 rfl rfl 0 (by decide) 11 rfl rfl dX3_strokeOnce_53 ?_
                refine g_iload_n O dX3_strokeOnce_56 1 rfl rfl ?_
                refine g_ialdN O 5 rfl (by omega) (by omega) dX3_strokeOnce_57 ?_
                refine g_if_leN (tgt := 66) O (by omega) dX3_strokeOnce_58 (by decide) (fun c_5 => ?_) (fun c_5 => ?_)
                ·
                  have hq : soF sw (sv_se s) tg g fl (i_ + 1) = (soF sw (sv_se s) tg g fl i_) := by simp only [soF]; rw [← e1_, if_neg (by simp only [goB]; rw [c_5]; simp)]
                  refine g_iincN (L' := [(0, .ref m0), (1, .int (nI (i_ + 1)))]) O dX3_strokeOnce_66 1 rfl (by decide) [1, 0] rfl ?_
                  refine g_goto (tgt := 24) O dX3_strokeOnce_69 (by decide) ?_
                  exact ih_ (i_ + 1) _ _ _ (by first | assumption | omega | rfl) (by rw [hq] <;> first | rfl | exact e1_) (by rw [hq] <;> first | rfl | exact e2_) (by rw [hq] <;> first | rfl | exact e3_) (by omega)
                ·
                  have hq : soF sw (sv_se s) tg g fl (i_ + 1) = (upf G_ i_ (G_ i_ - (G_ i_ + 1) / 2), shA sw (sv_se s) tg G_ A_ i_, if flB sw (sv_se s) i_ = true then f_ + nI 1 else f_) := by simp only [soF]; rw [← e1_, ← e2_, ← e3_, if_pos (by simp only [goB]; rw [decide_eq_true c_5, decide_eq_true (Int32.not_le.mp c_3)]; rfl)]
                  refine g_aload_n O dX3_strokeOnce_61 0 rfl rfl ?_
                  refine g_iload_n O dX3_strokeOnce_62 1 rfl rfl ?_
                  refine g_callV (As := [.int (nI i_)]) (wr := []) O (kX3_shake l D z m0 m1 m2 m3 w0 h0 h1 h2 h3 h4 h5 s sw tg A_ G_ f_ i_ (by first | assumption | omega) (by first | assumption | omega) (Nat.lt_of_le_of_lt (by rw [e1_]; exact soF_le _ _ _ _ _ _ _) (hg i_ (by omega))) (ht i_ (by omega))) gX3_strokeOnce_X3_shake rfl rfl rfl 1 (by decide +kernel) (by decide) (by decide) (q0 := 0) rfl rfl rfl [0, 1, 2, 3, 4, 5, 6] [] rfl (by decide) rfl (by decide) (by decide) rfl rfl (Nat.le_of_ble_eq_true rfl) dX3_strokeOnce_63 (fun r_6 w_7 hp => ?_)
                  obtain ⟨rfl, rfl⟩ := hp
                  refine g_eq (st' := []) (ws' := [(m0, .inr (3, [.ref w0, .ref h0, .ref m1, .ref m2, .ref m3])), (m1, .inl (tyI D, 144, .inl sw)), (m2, .inl (tyI D, 144, .inl (nf tg))), (m3, .inl (tyI D, 144, .inl (nf (shA sw (sv_se s) tg G_ A_ i_)))), (h0, .inr (5, [.ref h1, .ref h2, .ref h3, .int (nI (sv_nc s)), .ref h4, .ref h5, .int (sv_la s), .int (sv_st s), .int (sv_sw s), .int (if flB sw (sv_se s) i_ = true then f_ + nI 1 else f_), .int (sv_sk s), .int (sv_mu s)])), (h1, .inl (tyI D, 144, .inl (nf (upf G_ i_ (G_ i_ - (G_ i_ + 1) / 2))))), (h4, .inl (tyI D, 4, .inl (sv_se s)))]) rfl rfl rfl ?_
                  refine g_iincN (L' := [(0, .ref m0), (1, .int (nI (i_ + 1)))]) O dX3_strokeOnce_66 1 rfl (by decide) [1, 0] rfl ?_
                  refine g_goto (tgt := 24) O dX3_strokeOnce_69 (by decide) ?_
                  exact ih_ (i_ + 1) _ _ _ (by first | assumption | omega | rfl) (by rw [hq] <;> first | rfl | exact e1_) (by rw [hq] <;> first | rfl | exact e2_) (by rw [hq] <;> first | rfl | exact e3_) (by omega)
        exact J24 _ 0 _ _ _ (Nat.zero_le _) (rfl) (rfl) (rfl) (Nat.lt_succ_self _)
      ·
        refine g_aload_n O dX3_strokeOnce_9 0 rfl rfl ?_
        refine g_get O hiX3_strokeOnce_X3 0 rfl rfl 4 (by decide) (by decide +kernel) rfl dX3_strokeOnce_10 ?_
        refine g_iload_n O dX3_strokeOnce_13 1 rfl rfl ?_
        refine g_iconst (x := (nI 0)) O dX3_strokeOnce_14 (by decide +kernel) ?_
        refine g_iastN (f' := (nf (upf A_ i_ 0))) (ws' := [(m0, .inr (3, [.ref w0, .ref h0, .ref m1, .ref m2, .ref m3])), (m1, .inl (tyI D, 144, .inl sw)), (m2, .inl (tyI D, 144, .inl (nf tg))), (m3, .inl (tyI D, 144, .inl (nf (upf A_ i_ 0)))), (h0, .inr (5, [.ref h1, .ref h2, .ref h3, .int (nI (sv_nc s)), .ref h4, .ref h5, .int (sv_la s), .int (sv_st s), .int (sv_sw s), .int fl, .int (sv_sk s), .int (sv_mu s)])), (h1, .inl (tyI D, 144, .inl (nf g))), (h4, .inl (tyI D, 4, .inl (sv_se s)))]) O 3 rfl (by omega) (by omega) dX3_strokeOnce_15 (nf_upd _ _ _) rfl ?_
        refine g_iincN (L' := [(0, .ref m0), (1, .int (nI (i_ + 1)))]) O dX3_strokeOnce_16 1 rfl (by decide) [1, 0] rfl ?_
        refine g_goto (tgt := 2) O dX3_strokeOnce_19 (by decide) ?_
        exact ih_ (i_ + 1) _ (by first | assumption | omega | rfl) (fun j hj => by by_cases h : j = i_; (subst h; exact upf_s _ _ _); (rw [upf_n h]; exact hF j (by omega))) (by omega)
  exact J2 _ 0 _ (Nat.zero_le _) (fun j hj => absurd hj (Nat.not_lt_zero _)) (Nat.lt_succ_self _)
theorem hiX3_stroke_X3 : ∀ w ∈ wsX30, w ∈ wsX3_stroke := by decide +kernel
set_option maxHeartbeats 2000000 in
set_option maxRecDepth 100000 in
/-- strokes -/
theorem kX3_stroke (l : Launch) (D : va_G) (z : Nat × Nat × Nat) (m0 : Nat) (m1 : Nat) (m2 : Nat) (m3 : Nat) (w0 : Nat) (w1 : Nat) (w2 : Nat) (w3 : Nat) (w4 : Nat) (h0 : Nat) (h1 : Nat) (h2 : Nat) (h3 : Nat) (h4 : Nat) (h5 : Nat) (s : SV) (sw : Nat → Int32) (tg : Nat → Nat) (ar : Nat → Nat) (g : Nat → Nat) (fl : Int32) (w : Nat) (k : Nat) (hw : w < 48) (hk : k ≤ 20) (hg : ∀ n, n < k → ∀ p, p < 144 → (stI (SW w) (sv_se s) (tgW w) g fl n).1 p < 1073741824) : CM l yX3_stroke wsX3_stroke ({ frames := 4, cells := 0, slots := 0, locals := 86 } : Room) D z [.ref m0, .int (nI w), .int (nI k)] [(m0, .inr (3, [.ref w0, .ref h0, .ref m1, .ref m2, .ref m3])), (m1, .inl (tyI D, 144, .inl sw)), (m2, .inl (tyI D, 144, .inl (nf tg))), (m3, .inl (tyI D, 144, .inl (nf ar))), (w0, .inr (7, [.ref w1, .ref w2, .ref w3, .ref w4, .int (nI 48)])), (w1, .inl (tyI D, 48, .inl (nf tM))), (w2, .inl (tyI D, 48, .inl (nf tN))), (w3, .inl (tyI D, 48, .inl (nf tS))), (w4, .inl (tyI D, 84, .inl hT)), (h0, .inr (5, [.ref h1, .ref h2, .ref h3, .int (nI (sv_nc s)), .ref h4, .ref h5, .int (sv_la s), .int (sv_st s), .int (sv_sw s), .int fl, .int (sv_sk s), .int (sv_mu s)])), (h1, .inl (tyI D, 144, .inl (nf g))), (h4, .inl (tyI D, 4, .inl (sv_se s)))] (fun r_ w_ => ∃ (ar9 : Nat → Nat), r_ = none ∧ w_ = [(m0, .inr (3, [.ref w0, .ref h0, .ref m1, .ref m2, .ref m3])), (m1, .inl (tyI D, 144, .inl (SW w))), (m2, .inl (tyI D, 144, .inl (nf (tgW w)))), (m3, .inl (tyI D, 144, .inl (nf ar9))), (w0, .inr (7, [.ref w1, .ref w2, .ref w3, .ref w4, .int (nI 48)])), (w1, .inl (tyI D, 48, .inl (nf tM))), (w2, .inl (tyI D, 48, .inl (nf tN))), (w3, .inl (tyI D, 48, .inl (nf tS))), (w4, .inl (tyI D, 84, .inl hT)), (h0, .inr (5, [.ref h1, .ref h2, .ref h3, .int (nI (sv_nc s)), .ref h4, .ref h5, .int (sv_la s), .int (sv_st s), .int (sv_sw s), .int ((stI (SW w) (sv_se s) (tgW w) g fl k).2), .int (sv_sk s), .int (sv_mu s)])), (h1, .inl (tyI D, 144, .inl (nf ((stI (SW w) (sv_se s) (tgW w) g fl k).1)))), (h4, .inl (tyI D, 4, .inl (sv_se s)))]) 0 0 := by
  refine CM_void (own := RX3) (cc := cX3_stroke) (maxL := 4) (L0 := [(0, .ref m0), (1, .int (nI w)), (2, .int (nI k))]) (by decide) rfl rfl (Nat.le_of_ble_eq_true rfl) rfl (fun X O E => ?_)
  refine g_iconst (x := (nI 0)) O dX3_stroke_0 (by decide +kernel) ?_
  refine g_istore_n (L' := [(0, .ref m0), (1, .int (nI w)), (2, .int (nI k)), (3, .int (nI 0))]) O dX3_stroke_1 rfl (by decide) [1, 2, 3, 0] rfl ?_
  have J2 : ∀ (n_ : Nat), ∀ (i_ : Nat) (F_ : Nat → Int32) (hi_ : i_ ≤ 144) (hF : ∀ j, j < i_ → F_ j = SW w j), 144 - i_ < n_ → G X 0 0 2 [(0, .ref m0), (1, .int (nI w)), (2, .int (nI k)), (3, .int (nI i_))] [] [(m0, .inr (3, [.ref w0, .ref h0, .ref m1, .ref m2, .ref m3])), (m1, .inl (tyI D, 144, .inl F_)), (m2, .inl (tyI D, 144, .inl (nf tg))), (m3, .inl (tyI D, 144, .inl (nf ar))), (w0, .inr (7, [.ref w1, .ref w2, .ref w3, .ref w4, .int (nI 48)])), (w1, .inl (tyI D, 48, .inl (nf tM))), (w2, .inl (tyI D, 48, .inl (nf tN))), (w3, .inl (tyI D, 48, .inl (nf tS))), (w4, .inl (tyI D, 84, .inl hT)), (h0, .inr (5, [.ref h1, .ref h2, .ref h3, .int (nI (sv_nc s)), .ref h4, .ref h5, .int (sv_la s), .int (sv_st s), .int (sv_sw s), .int fl, .int (sv_sk s), .int (sv_mu s)])), (h1, .inl (tyI D, 144, .inl (nf g))), (h4, .inl (tyI D, 4, .inl (sv_se s)))] := by
    intro n_
    induction n_ with
    | zero => intro i_ F_ hi_ hF hm_; exact absurd hm_ (Nat.not_lt_zero _)
    | succ n_ ih_ =>
      intro i_ F_ hi_ hF hm_
      refine g_iload_n O dX3_stroke_2 3 rfl rfl ?_
      refine g_sipush (x := (nI 144)) O dX3_stroke_3 (by decide +kernel) ?_
      refine g_icmp_geN (tgt := 37) O (by omega) (by omega) dX3_stroke_6 (by decide) (fun c_1 => ?_) (fun c_1 => ?_)
      ·
        refine g_arr (f' := SW w) (ws' := [(m0, .inr (3, [.ref w0, .ref h0, .ref m1, .ref m2, .ref m3])), (m1, .inl (tyI D, 144, .inl (SW w))), (m2, .inl (tyI D, 144, .inl (nf tg))), (m3, .inl (tyI D, 144, .inl (nf ar))), (w0, .inr (7, [.ref w1, .ref w2, .ref w3, .ref w4, .int (nI 48)])), (w1, .inl (tyI D, 48, .inl (nf tM))), (w2, .inl (tyI D, 48, .inl (nf tN))), (w3, .inl (tyI D, 48, .inl (nf tS))), (w4, .inl (tyI D, 84, .inl hT)), (h0, .inr (5, [.ref h1, .ref h2, .ref h3, .int (nI (sv_nc s)), .ref h4, .ref h5, .int (sv_la s), .int (sv_st s), .int (sv_sw s), .int fl, .int (sv_sk s), .int (sv_mu s)])), (h1, .inl (tyI D, 144, .inl (nf g))), (h4, .inl (tyI D, 4, .inl (sv_se s)))]) 1 rfl (fun j hj => hF j (by omega)) rfl ?_
        refine g_iconst (x := (nI 0)) O dX3_stroke_37 (by decide +kernel) ?_
        refine g_istore_n (L' := [(0, .ref m0), (1, .int (nI w)), (2, .int (nI k)), (3, .int (nI 0))]) O dX3_stroke_38 rfl (by decide) [1, 2, 3, 0] rfl ?_
        have J39 : ∀ (n_ : Nat), ∀ (i_ : Nat) (T_ : Nat → Nat) (hi_ : i_ ≤ 144) (hF : ∀ j, j < i_ → T_ j = tgW w j), 144 - i_ < n_ → G X 0 0 39 [(0, .ref m0), (1, .int (nI w)), (2, .int (nI k)), (3, .int (nI i_))] [] [(m0, .inr (3, [.ref w0, .ref h0, .ref m1, .ref m2, .ref m3])), (m1, .inl (tyI D, 144, .inl (SW w))), (m2, .inl (tyI D, 144, .inl (nf T_))), (m3, .inl (tyI D, 144, .inl (nf ar))), (w0, .inr (7, [.ref w1, .ref w2, .ref w3, .ref w4, .int (nI 48)])), (w1, .inl (tyI D, 48, .inl (nf tM))), (w2, .inl (tyI D, 48, .inl (nf tN))), (w3, .inl (tyI D, 48, .inl (nf tS))), (w4, .inl (tyI D, 84, .inl hT)), (h0, .inr (5, [.ref h1, .ref h2, .ref h3, .int (nI (sv_nc s)), .ref h4, .ref h5, .int (sv_la s), .int (sv_st s), .int (sv_sw s), .int fl, .int (sv_sk s), .int (sv_mu s)])), (h1, .inl (tyI D, 144, .inl (nf g))), (h4, .inl (tyI D, 4, .inl (sv_se s)))] := by
          intro n_
          induction n_ with
          | zero => intro i_ T_ hi_ hF hm_; exact absurd hm_ (Nat.not_lt_zero _)
          | succ n_ ih_ =>
            intro i_ T_ hi_ hF hm_
            refine g_iload_n O dX3_stroke_39 3 rfl rfl ?_
            refine g_sipush (x := (nI 144)) O dX3_stroke_40 (by decide +kernel) ?_
            refine g_icmp_geN (tgt := 70) O (by omega) (by omega) dX3_stroke_43 (by decide) (fun c_2 => ?_) (fun c_2 => ?_)
            ·
              refine g_arr (f' := nf (tgW w)) (ws' := [(m0, .inr (3, [.ref w0, .ref h0, .ref m1, .ref m2, .ref m3])), (m1, .inl (tyI D, 144, .inl (SW w))), (m2, .inl (tyI D, 144, .inl (nf (tgW w)))), (m3, .inl (tyI D, 144, .inl (nf ar))), (w0, .inr (7, [.ref w1, .ref w2, .ref w3, .ref w4, .int (nI 48)])), (w1, .inl (tyI D, 48, .inl (nf tM))), (w2, .inl (tyI D, 48, .inl (nf tN))), (w3, .inl (tyI D, 48, .inl (nf tS))), (w4, .inl (tyI D, 84, .inl hT)), (h0, .inr (5, [.ref h1, .ref h2, .ref h3, .int (nI (sv_nc s)), .ref h4, .ref h5, .int (sv_la s), .int (sv_st s), .int (sv_sw s), .int fl, .int (sv_sk s), .int (sv_mu s)])), (h1, .inl (tyI D, 144, .inl (nf g))), (h4, .inl (tyI D, 4, .inl (sv_se s)))]) 2 rfl (fun j hj => by show nI (T_ j) = nI (tgW w j); rw [hF j (by omega)]) rfl ?_
              refine g_iconst (x := (nI 0)) O dX3_stroke_70 (by decide +kernel) ?_
              refine g_istore_n (L' := [(0, .ref m0), (1, .int (nI w)), (2, .int (nI k)), (3, .int (nI 0))]) O dX3_stroke_71 rfl (by decide) [1, 2, 3, 0] rfl ?_
              have J72 : ∀ (n_ : Nat), ∀ (i_ : Nat) (A_ : Nat → Nat) (hi_ : i_ ≤ k), k - i_ < n_ → G X 0 0 72 [(0, .ref m0), (1, .int (nI w)), (2, .int (nI k)), (3, .int (nI i_))] [] [(m0, .inr (3, [.ref w0, .ref h0, .ref m1, .ref m2, .ref m3])), (m1, .inl (tyI D, 144, .inl (SW w))), (m2, .inl (tyI D, 144, .inl (nf (tgW w)))), (m3, .inl (tyI D, 144, .inl (nf A_))), (w0, .inr (7, [.ref w1, .ref w2, .ref w3, .ref w4, .int (nI 48)])), (w1, .inl (tyI D, 48, .inl (nf tM))), (w2, .inl (tyI D, 48, .inl (nf tN))), (w3, .inl (tyI D, 48, .inl (nf tS))), (w4, .inl (tyI D, 84, .inl hT)), (h0, .inr (5, [.ref h1, .ref h2, .ref h3, .int (nI (sv_nc s)), .ref h4, .ref h5, .int (sv_la s), .int (sv_st s), .int (sv_sw s), .int ((stI (SW w) (sv_se s) (tgW w) g fl i_).2), .int (sv_sk s), .int (sv_mu s)])), (h1, .inl (tyI D, 144, .inl (nf ((stI (SW w) (sv_se s) (tgW w) g fl i_).1)))), (h4, .inl (tyI D, 4, .inl (sv_se s)))] := by
                intro n_
                induction n_ with
                | zero => intro i_ A_ hi_ hm_; exact absurd hm_ (Nat.not_lt_zero _)
                | succ n_ ih_ =>
                  intro i_ A_ hi_ hm_
                  refine g_iload_n O dX3_stroke_72 3 rfl rfl ?_
                  refine g_iload_n O dX3_stroke_73 2 rfl rfl ?_
                  refine g_icmp_geN (tgt := 93) O (by omega) (by omega) dX3_stroke_74 (by decide) (fun c_3 => ?_) (fun c_3 => ?_)
                  ·
                    obtain rfl : k = i_ := by omega
                    exact E 93 _ _ dX3_stroke_93 (⟨_, rfl, rfl⟩)
                  ·
                    refine g_iload_n O dX3_stroke_77 3 rfl rfl ?_
                    refine g_bipush (x := (nI 20)) O dX3_stroke_78 (by decide +kernel) ?_
                    refine g_icmp_geN (tgt := 93) O (by omega) (by omega) dX3_stroke_80 (by decide) (fun c_4 => (by exfalso; omega)) (fun c_4 => ?_)
                    refine g_aload_n O dX3_stroke_83 0 rfl rfl ?_
                    refine g_callV (As := []) (wr := [(w0, .inr (7, [.ref w1, .ref w2, .ref w3, .ref w4, .int (nI 48)])), (w1, .inl (tyI D, 48, .inl (nf tM))), (w2, .inl (tyI D, 48, .inl (nf tN))), (w3, .inl (tyI D, 48, .inl (nf tS))), (w4, .inl (tyI D, 84, .inl hT))]) O (kX3_strokeOnce l D z m0 m1 m2 m3 w0 h0 h1 h2 h3 h4 h5 s (SW w) (tgW w) A_ ((stI (SW w) (sv_se s) (tgW w) g fl i_).1) ((stI (SW w) (sv_se s) (tgW w) g fl i_).2) (fun p hp => hg i_ (by omega) p hp) (fun p hp => tgW_lt hp)) gX3_stroke_X3_strokeOnce rfl rfl rfl 0 (by decide +kernel) (by decide) (by decide) (q0 := 0) rfl rfl rfl [0, 1, 2, 3, 9, 10, 11] [4, 5, 6, 7, 8] rfl (by decide) rfl (by decide) (by decide) rfl rfl (Nat.le_of_ble_eq_true rfl) dX3_stroke_84 (fun r_5 w_6 hp => ?_)
                    obtain ⟨rfl, rfl⟩ := hp
                    refine g_eq (st' := []) (ws' := [(w0, .inr (7, [.ref w1, .ref w2, .ref w3, .ref w4, .int (nI 48)])), (w1, .inl (tyI D, 48, .inl (nf tM))), (w2, .inl (tyI D, 48, .inl (nf tN))), (w3, .inl (tyI D, 48, .inl (nf tS))), (w4, .inl (tyI D, 84, .inl hT)), (m0, .inr (3, [.ref w0, .ref h0, .ref m1, .ref m2, .ref m3])), (m1, .inl (tyI D, 144, .inl (SW w))), (m2, .inl (tyI D, 144, .inl (nf (tgW w)))), (m3, .inl (tyI D, 144, .inl (nf ((soF (SW w) (sv_se s) (tgW w) ((stI (SW w) (sv_se s) (tgW w) g fl i_).1) ((stI (SW w) (sv_se s) (tgW w) g fl i_).2) 144).2.1)))), (h0, .inr (5, [.ref h1, .ref h2, .ref h3, .int (nI (sv_nc s)), .ref h4, .ref h5, .int (sv_la s), .int (sv_st s), .int (sv_sw s), .int (onL (SW w) (sv_se s) (tgW w) ((stI (SW w) (sv_se s) (tgW w) g fl i_).1) ((stI (SW w) (sv_se s) (tgW w) g fl i_).2)), .int (sv_sk s), .int (sv_mu s)])), (h1, .inl (tyI D, 144, .inl (nf (onG (SW w) (sv_se s) (tgW w) ((stI (SW w) (sv_se s) (tgW w) g fl i_).1) ((stI (SW w) (sv_se s) (tgW w) g fl i_).2))))), (h4, .inl (tyI D, 4, .inl (sv_se s)))]) rfl rfl rfl ?_
                    refine g_iincN (L' := [(0, .ref m0), (1, .int (nI w)), (2, .int (nI k)), (3, .int (nI (i_ + 1)))]) O dX3_stroke_87 3 rfl (by decide) [1, 2, 3, 0] rfl ?_
                    refine g_goto (tgt := 72) O dX3_stroke_90 (by decide) ?_
                    refine g_perm (ws' := [(m0, .inr (3, [.ref w0, .ref h0, .ref m1, .ref m2, .ref m3])), (m1, .inl (tyI D, 144, .inl (SW w))), (m2, .inl (tyI D, 144, .inl (nf (tgW w)))), (m3, .inl (tyI D, 144, .inl (nf ((soF (SW w) (sv_se s) (tgW w) ((stI (SW w) (sv_se s) (tgW w) g fl i_).1) ((stI (SW w) (sv_se s) (tgW w) g fl i_).2) 144).2.1)))), (w0, .inr (7, [.ref w1, .ref w2, .ref w3, .ref w4, .int (nI 48)])), (w1, .inl (tyI D, 48, .inl (nf tM))), (w2, .inl (tyI D, 48, .inl (nf tN))), (w3, .inl (tyI D, 48, .inl (nf tS))), (w4, .inl (tyI D, 84, .inl hT)), (h0, .inr (5, [.ref h1, .ref h2, .ref h3, .int (nI (sv_nc s)), .ref h4, .ref h5, .int (sv_la s), .int (sv_st s), .int (sv_sw s), .int (onL (SW w) (sv_se s) (tgW w) ((stI (SW w) (sv_se s) (tgW w) g fl i_).1) ((stI (SW w) (sv_se s) (tgW w) g fl i_).2)), .int (sv_sk s), .int (sv_mu s)])), (h1, .inl (tyI D, 144, .inl (nf (onG (SW w) (sv_se s) (tgW w) ((stI (SW w) (sv_se s) (tgW w) g fl i_).1) ((stI (SW w) (sv_se s) (tgW w) g fl i_).2))))), (h4, .inl (tyI D, 4, .inl (sv_se s)))]) [5, 6, 7, 8, 0, 1, 2, 3, 4, 9, 10, 11] rfl (by decide) ?_
                    exact ih_ (i_ + 1) _ (by first | assumption | omega | rfl) (by omega)
              exact J72 _ 0 _ (Nat.zero_le _) (Nat.lt_succ_self _)
            ·
              refine g_aload_n O dX3_stroke_46 0 rfl rfl ?_
              refine g_get O hiX3_stroke_X3 0 rfl rfl 3 (by decide) (by decide +kernel) rfl dX3_stroke_47 ?_
              refine g_iload_n O dX3_stroke_50 3 rfl rfl ?_
              refine g_aload_n O dX3_stroke_51 0 rfl rfl ?_
              refine g_iload_n O dX3_stroke_52 3 rfl rfl ?_
              refine g_callSN (As := [.int (nI i_)]) (wr := [(m0, .inr (3, [.ref w0, .ref h0, .ref m1, .ref m2, .ref m3])), (m1, .inl (tyI D, 144, .inl (SW w))), (m2, .inl (tyI D, 144, .inl (nf T_))), (m3, .inl (tyI D, 144, .inl (nf ar))), (w0, .inr (7, [.ref w1, .ref w2, .ref w3, .ref w4, .int (nI 48)])), (w1, .inl (tyI D, 48, .inl (nf tM))), (w2, .inl (tyI D, 48, .inl (nf tN))), (w3, .inl (tyI D, 48, .inl (nf tS))), (w4, .inl (tyI D, 84, .inl hT)), (h0, .inr (5, [.ref h1, .ref h2, .ref h3, .int (nI (sv_nc s)), .ref h4, .ref h5, .int (sv_la s), .int (sv_st s), .int (sv_sw s), .int fl, .int (sv_sk s), .int (sv_mu s)])), (h1, .inl (tyI D, 144, .inl (nf g))), (h4, .inl (tyI D, 4, .inl (sv_se s)))]) O (kX8_columnOf l D z i_ (by first | assumption | omega)) gX3_stroke_X8_columnOf_n29 rfl rfl rfl 1 (by decide +kernel) (by decide) (by decide) (by decide +kernel) 3 rfl (by decide +kernel) [] [0, 1, 2, 3, 4, 5, 6, 7, 8, 9, 10, 11] rfl (by decide) rfl (by decide) (by decide) rfl rfl (Nat.le_of_ble_eq_true rfl) dX3_stroke_53 (fun r_7 w_8 hp => ?_)
              obtain ⟨rfl, rfl⟩ := hp
              refine g_eq (st' := [.int (nI (i_ % 12)), .ref m0, .int (nI i_), .ref m2]) (ws' := [(m0, .inr (3, [.ref w0, .ref h0, .ref m1, .ref m2, .ref m3])), (m1, .inl (tyI D, 144, .inl (SW w))), (m2, .inl (tyI D, 144, .inl (nf T_))), (m3, .inl (tyI D, 144, .inl (nf ar))), (w0, .inr (7, [.ref w1, .ref w2, .ref w3, .ref w4, .int (nI 48)])), (w1, .inl (tyI D, 48, .inl (nf tM))), (w2, .inl (tyI D, 48, .inl (nf tN))), (w3, .inl (tyI D, 48, .inl (nf tS))), (w4, .inl (tyI D, 84, .inl hT)), (h0, .inr (5, [.ref h1, .ref h2, .ref h3, .int (nI (sv_nc s)), .ref h4, .ref h5, .int (sv_la s), .int (sv_st s), .int (sv_sw s), .int fl, .int (sv_sk s), .int (sv_mu s)])), (h1, .inl (tyI D, 144, .inl (nf g))), (h4, .inl (tyI D, 4, .inl (sv_se s)))]) rfl rfl rfl ?_
              refine g_iload_n O dX3_stroke_56 3 rfl rfl ?_
              refine g_callSN (As := [.int (nI i_)]) (wr := [(m0, .inr (3, [.ref w0, .ref h0, .ref m1, .ref m2, .ref m3])), (m1, .inl (tyI D, 144, .inl (SW w))), (m2, .inl (tyI D, 144, .inl (nf T_))), (m3, .inl (tyI D, 144, .inl (nf ar))), (w0, .inr (7, [.ref w1, .ref w2, .ref w3, .ref w4, .int (nI 48)])), (w1, .inl (tyI D, 48, .inl (nf tM))), (w2, .inl (tyI D, 48, .inl (nf tN))), (w3, .inl (tyI D, 48, .inl (nf tS))), (w4, .inl (tyI D, 84, .inl hT)), (h0, .inr (5, [.ref h1, .ref h2, .ref h3, .int (nI (sv_nc s)), .ref h4, .ref h5, .int (sv_la s), .int (sv_st s), .int (sv_sw s), .int fl, .int (sv_sk s), .int (sv_mu s)])), (h1, .inl (tyI D, 144, .inl (nf g))), (h4, .inl (tyI D, 4, .inl (sv_se s)))]) O (kX8_rowOf l D z i_ (by first | assumption | omega)) gX3_stroke_X8_rowOf_n33 rfl rfl rfl 1 (by decide +kernel) (by decide) (by decide) (by decide +kernel) 4 rfl (by decide +kernel) [] [0, 1, 2, 3, 4, 5, 6, 7, 8, 9, 10, 11] rfl (by decide) rfl (by decide) (by decide) rfl rfl (Nat.le_of_ble_eq_true rfl) dX3_stroke_57 (fun r_9 w_10 hp => ?_)
              obtain ⟨rfl, rfl⟩ := hp
              refine g_eq (st' := [.int (nI (i_ / 12)), .int (nI (i_ % 12)), .ref m0, .int (nI i_), .ref m2]) (ws' := [(m0, .inr (3, [.ref w0, .ref h0, .ref m1, .ref m2, .ref m3])), (m1, .inl (tyI D, 144, .inl (SW w))), (m2, .inl (tyI D, 144, .inl (nf T_))), (m3, .inl (tyI D, 144, .inl (nf ar))), (w0, .inr (7, [.ref w1, .ref w2, .ref w3, .ref w4, .int (nI 48)])), (w1, .inl (tyI D, 48, .inl (nf tM))), (w2, .inl (tyI D, 48, .inl (nf tN))), (w3, .inl (tyI D, 48, .inl (nf tS))), (w4, .inl (tyI D, 84, .inl hT)), (h0, .inr (5, [.ref h1, .ref h2, .ref h3, .int (nI (sv_nc s)), .ref h4, .ref h5, .int (sv_la s), .int (sv_st s), .int (sv_sw s), .int fl, .int (sv_sk s), .int (sv_mu s)])), (h1, .inl (tyI D, 144, .inl (nf g))), (h4, .inl (tyI D, 4, .inl (sv_se s)))]) rfl rfl rfl ?_
              refine g_callV (As := [.int (nI (i_ % 12)), .int (nI (i_ / 12))]) (wr := [(m2, .inl (tyI D, 144, .inl (nf T_))), (m3, .inl (tyI D, 144, .inl (nf ar))), (w0, .inr (7, [.ref w1, .ref w2, .ref w3, .ref w4, .int (nI 48)])), (w1, .inl (tyI D, 48, .inl (nf tM))), (w2, .inl (tyI D, 48, .inl (nf tN))), (w3, .inl (tyI D, 48, .inl (nf tS))), (w4, .inl (tyI D, 84, .inl hT)), (h0, .inr (5, [.ref h1, .ref h2, .ref h3, .int (nI (sv_nc s)), .ref h4, .ref h5, .int (sv_la s), .int (sv_st s), .int (sv_sw s), .int fl, .int (sv_sk s), .int (sv_mu s)])), (h1, .inl (tyI D, 144, .inl (nf g))), (h4, .inl (tyI D, 4, .inl (sv_se s)))]) O (kX3_targetOf l D z m0 m1 m2 m3 w0 h0 (SW w) (i_ % 12) (i_ / 12) (by first | assumption | omega) (by first | assumption | omega)) gX3_stroke_X3_targetOf rfl rfl rfl 2 (by decide +kernel) (by decide) (by decide) (q0 := 0) rfl rfl rfl [0, 1] [2, 3, 4, 5, 6, 7, 8, 9, 10, 11] rfl (by decide) rfl (by decide) (by decide) rfl rfl (Nat.le_of_ble_eq_true rfl) dX3_stroke_60 (fun r_11 w_12 hp => ?_)
              obtain ⟨rfl, rfl⟩ := hp
              refine g_eq (st' := [.int (nI (tgF (SW w) (i_ % 12) (i_ / 12))), .int (nI i_), .ref m2]) (ws' := [(m2, .inl (tyI D, 144, .inl (nf T_))), (m3, .inl (tyI D, 144, .inl (nf ar))), (w0, .inr (7, [.ref w1, .ref w2, .ref w3, .ref w4, .int (nI 48)])), (w1, .inl (tyI D, 48, .inl (nf tM))), (w2, .inl (tyI D, 48, .inl (nf tN))), (w3, .inl (tyI D, 48, .inl (nf tS))), (w4, .inl (tyI D, 84, .inl hT)), (h0, .inr (5, [.ref h1, .ref h2, .ref h3, .int (nI (sv_nc s)), .ref h4, .ref h5, .int (sv_la s), .int (sv_st s), .int (sv_sw s), .int fl, .int (sv_sk s), .int (sv_mu s)])), (h1, .inl (tyI D, 144, .inl (nf g))), (h4, .inl (tyI D, 4, .inl (sv_se s))), (m0, .inr (3, [.ref w0, .ref h0, .ref m1, .ref m2, .ref m3])), (m1, .inl (tyI D, 144, .inl (SW w)))]) rfl rfl rfl ?_
              refine g_eq (st' := [.int (nI (tgW w i_)), .int (nI i_), .ref m2]) rfl rfl rfl ?_
              refine g_iastN (f' := (nf (upf T_ i_ (tgW w i_)))) (ws' := [(m2, .inl (tyI D, 144, .inl (nf (upf T_ i_ (tgW w i_))))), (m3, .inl (tyI D, 144, .inl (nf ar))), (w0, .inr (7, [.ref w1, .ref w2, .ref w3, .ref w4, .int (nI 48)])), (w1, .inl (tyI D, 48, .inl (nf tM))), (w2, .inl (tyI D, 48, .inl (nf tN))), (w3, .inl (tyI D, 48, .inl (nf tS))), (w4, .inl (tyI D, 84, .inl hT)), (h0, .inr (5, [.ref h1, .ref h2, .ref h3, .int (nI (sv_nc s)), .ref h4, .ref h5, .int (sv_la s), .int (sv_st s), .int (sv_sw s), .int fl, .int (sv_sk s), .int (sv_mu s)])), (h1, .inl (tyI D, 144, .inl (nf g))), (h4, .inl (tyI D, 4, .inl (sv_se s))), (m0, .inr (3, [.ref w0, .ref h0, .ref m1, .ref m2, .ref m3])), (m1, .inl (tyI D, 144, .inl (SW w)))]) O 0 rfl (by omega) (by omega) dX3_stroke_63 (nf_upd _ _ _) rfl ?_
              refine g_iincN (L' := [(0, .ref m0), (1, .int (nI w)), (2, .int (nI k)), (3, .int (nI (i_ + 1)))]) O dX3_stroke_64 3 rfl (by decide) [1, 2, 3, 0] rfl ?_
              refine g_goto (tgt := 39) O dX3_stroke_67 (by decide) ?_
              refine g_perm (ws' := [(m0, .inr (3, [.ref w0, .ref h0, .ref m1, .ref m2, .ref m3])), (m1, .inl (tyI D, 144, .inl (SW w))), (m2, .inl (tyI D, 144, .inl (nf (upf T_ i_ (tgW w i_))))), (m3, .inl (tyI D, 144, .inl (nf ar))), (w0, .inr (7, [.ref w1, .ref w2, .ref w3, .ref w4, .int (nI 48)])), (w1, .inl (tyI D, 48, .inl (nf tM))), (w2, .inl (tyI D, 48, .inl (nf tN))), (w3, .inl (tyI D, 48, .inl (nf tS))), (w4, .inl (tyI D, 84, .inl hT)), (h0, .inr (5, [.ref h1, .ref h2, .ref h3, .int (nI (sv_nc s)), .ref h4, .ref h5, .int (sv_la s), .int (sv_st s), .int (sv_sw s), .int fl, .int (sv_sk s), .int (sv_mu s)])), (h1, .inl (tyI D, 144, .inl (nf g))), (h4, .inl (tyI D, 4, .inl (sv_se s)))]) [10, 11, 0, 1, 2, 3, 4, 5, 6, 7, 8, 9] rfl (by decide) ?_
              exact ih_ (i_ + 1) _ (by first | assumption | omega | rfl) (fun j hj => by by_cases h : j = i_; (subst h; exact upf_s _ _ _); (rw [upf_n h]; exact hF j (by omega))) (by omega)
        exact J39 _ 0 _ (Nat.zero_le _) (fun j hj => absurd hj (Nat.not_lt_zero _)) (Nat.lt_succ_self _)
      ·
        refine g_aload_n O dX3_stroke_9 0 rfl rfl ?_
        refine g_get O hiX3_stroke_X3 0 rfl rfl 2 (by decide) (by decide +kernel) rfl dX3_stroke_10 ?_
        refine g_iload_n O dX3_stroke_13 3 rfl rfl ?_
        refine g_aload_n O dX3_stroke_14 0 rfl rfl ?_
        refine g_get O hiX3_stroke_X3 0 rfl rfl 0 (by decide) (by decide +kernel) rfl dX3_stroke_15 ?_
        refine g_iload_n O dX3_stroke_18 1 rfl rfl ?_
        refine g_iload_n O dX3_stroke_19 3 rfl rfl ?_
        refine g_callSN (As := [.int (nI i_)]) (wr := [(m0, .inr (3, [.ref w0, .ref h0, .ref m1, .ref m2, .ref m3])), (m1, .inl (tyI D, 144, .inl F_)), (m2, .inl (tyI D, 144, .inl (nf tg))), (m3, .inl (tyI D, 144, .inl (nf ar))), (w0, .inr (7, [.ref w1, .ref w2, .ref w3, .ref w4, .int (nI 48)])), (w1, .inl (tyI D, 48, .inl (nf tM))), (w2, .inl (tyI D, 48, .inl (nf tN))), (w3, .inl (tyI D, 48, .inl (nf tS))), (w4, .inl (tyI D, 84, .inl hT)), (h0, .inr (5, [.ref h1, .ref h2, .ref h3, .int (nI (sv_nc s)), .ref h4, .ref h5, .int (sv_la s), .int (sv_st s), .int (sv_sw s), .int fl, .int (sv_sk s), .int (sv_mu s)])), (h1, .inl (tyI D, 144, .inl (nf g))), (h4, .inl (tyI D, 4, .inl (sv_se s)))]) O (kX8_columnOf l D z i_ (by first | assumption | omega)) gX3_stroke_X8_columnOf_n29 rfl rfl rfl 1 (by decide +kernel) (by decide) (by decide) (by decide +kernel) 3 rfl (by decide +kernel) [] [0, 1, 2, 3, 4, 5, 6, 7, 8, 9, 10, 11] rfl (by decide) rfl (by decide) (by decide) rfl rfl (Nat.le_of_ble_eq_true rfl) dX3_stroke_20 (fun r_13 w_14 hp => ?_)
        obtain ⟨rfl, rfl⟩ := hp
        refine g_eq (st' := [.int (nI (i_ % 12)), .int (nI w), .ref w0, .int (nI i_), .ref m1]) (ws' := [(m0, .inr (3, [.ref w0, .ref h0, .ref m1, .ref m2, .ref m3])), (m1, .inl (tyI D, 144, .inl F_)), (m2, .inl (tyI D, 144, .inl (nf tg))), (m3, .inl (tyI D, 144, .inl (nf ar))), (w0, .inr (7, [.ref w1, .ref w2, .ref w3, .ref w4, .int (nI 48)])), (w1, .inl (tyI D, 48, .inl (nf tM))), (w2, .inl (tyI D, 48, .inl (nf tN))), (w3, .inl (tyI D, 48, .inl (nf tS))), (w4, .inl (tyI D, 84, .inl hT)), (h0, .inr (5, [.ref h1, .ref h2, .ref h3, .int (nI (sv_nc s)), .ref h4, .ref h5, .int (sv_la s), .int (sv_st s), .int (sv_sw s), .int fl, .int (sv_sk s), .int (sv_mu s)])), (h1, .inl (tyI D, 144, .inl (nf g))), (h4, .inl (tyI D, 4, .inl (sv_se s)))]) rfl rfl rfl ?_
        refine g_iload_n O dX3_stroke_23 3 rfl rfl ?_
        refine g_callSN (As := [.int (nI i_)]) (wr := [(m0, .inr (3, [.ref w0, .ref h0, .ref m1, .ref m2, .ref m3])), (m1, .inl (tyI D, 144, .inl F_)), (m2, .inl (tyI D, 144, .inl (nf tg))), (m3, .inl (tyI D, 144, .inl (nf ar))), (w0, .inr (7, [.ref w1, .ref w2, .ref w3, .ref w4, .int (nI 48)])), (w1, .inl (tyI D, 48, .inl (nf tM))), (w2, .inl (tyI D, 48, .inl (nf tN))), (w3, .inl (tyI D, 48, .inl (nf tS))), (w4, .inl (tyI D, 84, .inl hT)), (h0, .inr (5, [.ref h1, .ref h2, .ref h3, .int (nI (sv_nc s)), .ref h4, .ref h5, .int (sv_la s), .int (sv_st s), .int (sv_sw s), .int fl, .int (sv_sk s), .int (sv_mu s)])), (h1, .inl (tyI D, 144, .inl (nf g))), (h4, .inl (tyI D, 4, .inl (sv_se s)))]) O (kX8_rowOf l D z i_ (by first | assumption | omega)) gX3_stroke_X8_rowOf_n33 rfl rfl rfl 1 (by decide +kernel) (by decide) (by decide) (by decide +kernel) 4 rfl (by decide +kernel) [] [0, 1, 2, 3, 4, 5, 6, 7, 8, 9, 10, 11] rfl (by decide) rfl (by decide) (by decide) rfl rfl (Nat.le_of_ble_eq_true rfl) dX3_stroke_24 (fun r_15 w_16 hp => ?_)
        obtain ⟨rfl, rfl⟩ := hp
        refine g_eq (st' := [.int (nI (i_ / 12)), .int (nI (i_ % 12)), .int (nI w), .ref w0, .int (nI i_), .ref m1]) (ws' := [(m0, .inr (3, [.ref w0, .ref h0, .ref m1, .ref m2, .ref m3])), (m1, .inl (tyI D, 144, .inl F_)), (m2, .inl (tyI D, 144, .inl (nf tg))), (m3, .inl (tyI D, 144, .inl (nf ar))), (w0, .inr (7, [.ref w1, .ref w2, .ref w3, .ref w4, .int (nI 48)])), (w1, .inl (tyI D, 48, .inl (nf tM))), (w2, .inl (tyI D, 48, .inl (nf tN))), (w3, .inl (tyI D, 48, .inl (nf tS))), (w4, .inl (tyI D, 84, .inl hT)), (h0, .inr (5, [.ref h1, .ref h2, .ref h3, .int (nI (sv_nc s)), .ref h4, .ref h5, .int (sv_la s), .int (sv_st s), .int (sv_sw s), .int fl, .int (sv_sk s), .int (sv_mu s)])), (h1, .inl (tyI D, 144, .inl (nf g))), (h4, .inl (tyI D, 4, .inl (sv_se s)))]) rfl rfl rfl ?_
        refine g_callV (As := [.int (nI w), .int (nI (i_ % 12)), .int (nI (i_ / 12))]) (wr := [(m0, .inr (3, [.ref w0, .ref h0, .ref m1, .ref m2, .ref m3])), (m1, .inl (tyI D, 144, .inl F_)), (m2, .inl (tyI D, 144, .inl (nf tg))), (m3, .inl (tyI D, 144, .inl (nf ar))), (h0, .inr (5, [.ref h1, .ref h2, .ref h3, .int (nI (sv_nc s)), .ref h4, .ref h5, .int (sv_la s), .int (sv_st s), .int (sv_sw s), .int fl, .int (sv_sk s), .int (sv_mu s)])), (h1, .inl (tyI D, 144, .inl (nf g))), (h4, .inl (tyI D, 4, .inl (sv_se s)))]) O (kX7_swingAt l D z w0 w1 w2 w3 w4 w (i_ % 12) (i_ / 12) (by first | assumption | omega) (by first | assumption | omega) (by first | assumption | omega)) gX3_stroke_X7_swingAt rfl rfl rfl 3 (by decide +kernel) (by decide) (by decide) (q0 := 0) rfl rfl rfl [4, 5, 6, 7, 8] [0, 1, 2, 3, 9, 10, 11] rfl (by decide) rfl (by decide) (by decide) rfl rfl (Nat.le_of_ble_eq_true rfl) dX3_stroke_27 (fun r_17 w_18 hp => ?_)
        obtain ⟨rfl, rfl⟩ := hp
        refine g_eq (st' := [.int (SW w (12 * (i_ / 12) + (i_ % 12))), .int (nI i_), .ref m1]) (ws' := [(m0, .inr (3, [.ref w0, .ref h0, .ref m1, .ref m2, .ref m3])), (m1, .inl (tyI D, 144, .inl F_)), (m2, .inl (tyI D, 144, .inl (nf tg))), (m3, .inl (tyI D, 144, .inl (nf ar))), (h0, .inr (5, [.ref h1, .ref h2, .ref h3, .int (nI (sv_nc s)), .ref h4, .ref h5, .int (sv_la s), .int (sv_st s), .int (sv_sw s), .int fl, .int (sv_sk s), .int (sv_mu s)])), (h1, .inl (tyI D, 144, .inl (nf g))), (h4, .inl (tyI D, 4, .inl (sv_se s))), (w0, .inr (7, [.ref w1, .ref w2, .ref w3, .ref w4, .int (nI 48)])), (w1, .inl (tyI D, 48, .inl (nf tM))), (w2, .inl (tyI D, 48, .inl (nf tN))), (w3, .inl (tyI D, 48, .inl (nf tS))), (w4, .inl (tyI D, 84, .inl hT))]) rfl rfl rfl ?_
        rw [show 12 * (i_ / 12) + i_ % 12 = i_ by omega]
        refine g_iastN (f' := (upd F_ i_ (SW w i_))) (ws' := [(m0, .inr (3, [.ref w0, .ref h0, .ref m1, .ref m2, .ref m3])), (m1, .inl (tyI D, 144, .inl (upd F_ i_ (SW w i_)))), (m2, .inl (tyI D, 144, .inl (nf tg))), (m3, .inl (tyI D, 144, .inl (nf ar))), (h0, .inr (5, [.ref h1, .ref h2, .ref h3, .int (nI (sv_nc s)), .ref h4, .ref h5, .int (sv_la s), .int (sv_st s), .int (sv_sw s), .int fl, .int (sv_sk s), .int (sv_mu s)])), (h1, .inl (tyI D, 144, .inl (nf g))), (h4, .inl (tyI D, 4, .inl (sv_se s))), (w0, .inr (7, [.ref w1, .ref w2, .ref w3, .ref w4, .int (nI 48)])), (w1, .inl (tyI D, 48, .inl (nf tM))), (w2, .inl (tyI D, 48, .inl (nf tN))), (w3, .inl (tyI D, 48, .inl (nf tS))), (w4, .inl (tyI D, 84, .inl hT))]) O 1 rfl (by omega) (by omega) dX3_stroke_30 rfl rfl ?_
        refine g_iincN (L' := [(0, .ref m0), (1, .int (nI w)), (2, .int (nI k)), (3, .int (nI (i_ + 1)))]) O dX3_stroke_31 3 rfl (by decide) [1, 2, 3, 0] rfl ?_
        refine g_goto (tgt := 2) O dX3_stroke_34 (by decide) ?_
        refine g_perm (ws' := [(m0, .inr (3, [.ref w0, .ref h0, .ref m1, .ref m2, .ref m3])), (m1, .inl (tyI D, 144, .inl (upd F_ i_ (SW w i_)))), (m2, .inl (tyI D, 144, .inl (nf tg))), (m3, .inl (tyI D, 144, .inl (nf ar))), (w0, .inr (7, [.ref w1, .ref w2, .ref w3, .ref w4, .int (nI 48)])), (w1, .inl (tyI D, 48, .inl (nf tM))), (w2, .inl (tyI D, 48, .inl (nf tN))), (w3, .inl (tyI D, 48, .inl (nf tS))), (w4, .inl (tyI D, 84, .inl hT)), (h0, .inr (5, [.ref h1, .ref h2, .ref h3, .int (nI (sv_nc s)), .ref h4, .ref h5, .int (sv_la s), .int (sv_st s), .int (sv_sw s), .int fl, .int (sv_sk s), .int (sv_mu s)])), (h1, .inl (tyI D, 144, .inl (nf g))), (h4, .inl (tyI D, 4, .inl (sv_se s)))]) [0, 1, 2, 3, 7, 8, 9, 10, 11, 4, 5, 6] rfl (by decide) ?_
        exact ih_ (i_ + 1) _ (by first | assumption | omega | rfl) (fun j hj => by by_cases h : j = i_; (subst h; simp [upd]); (simp only [upd]; rw [if_neg h]; exact hF j (by omega))) (by omega)
  exact J2 _ 0 _ (Nat.zero_le _) (fun j hj => absurd hj (Nat.not_lt_zero _)) (Nat.lt_succ_self _)
theorem hiX3_init_X3 : ∀ w ∈ wsX30, w ∈ wsX3_init := by decide +kernel
set_option maxHeartbeats 2000000 in
set_option maxRecDepth 100000 in
/-- a new mover -/
theorem kX3_init (l : Launch) (D : va_G) (z : Nat × Nat × Nat) (m0 : Nat) (w0 : Nat) (h0 : Nat)  : CM l yX3_init wsX3_init ({ frames := 1, cells := 3, slots := 432, locals := 14 } : Room) D z [.ref m0, .ref w0, .ref h0] [(m0, .inr (3, [.null, .null, .null, .null, .null]))] (fun r_ w_ => ∃ (q0 : Nat), ∃ (q1 : Nat), ∃ (q2 : Nat), r_ = none ∧ w_ = [(m0, .inr (3, [.ref w0, .ref h0, .ref q0, .ref q1, .ref q2])), (q0, .inl (tyI D, 144, .inl (nf (fun _ => 0)))), (q1, .inl (tyI D, 144, .inl (nf (fun _ => 0)))), (q2, .inl (tyI D, 144, .inl (nf (fun _ => 0))))]) 3 432 := by
  refine CM_void (own := RX3) (cc := cX3_init) (maxL := 3) (L0 := [(0, .ref m0), (1, .ref w0), (2, .ref h0)]) (by decide) rfl rfl (Nat.le_of_ble_eq_true rfl) rfl (fun X O E => ?_)
  refine g_aload_n O dX3_init_0 0 rfl rfl ?_
  refine g_objInit O (by decide +kernel) (by decide +kernel) (by decide +kernel) (by decide) (Nat.le_of_ble_eq_true rfl) dX3_init_1 ?_
  refine g_aload_n O dX3_init_4 0 rfl rfl ?_
  refine g_sipush (x := (nI 144)) O dX3_init_5 (by decide +kernel) ?_
  refine g_newI (N := 144) O (by decide +kernel) (nI_pos (by decide)) (nI_clamp (by decide)) (by decide) (by decide) (by decide) dX3_init_8 (fun q_1 => ?_)
  refine g_eq (ws' := [(m0, .inr (3, [.null, .null, .null, .null, .null])), (q_1, .inl (tyI D, 144, .inl (nf (fun _ => 0))))]) rfl rfl (by rfl) ?_
  refine g_putF (ws' := [(m0, .inr (3, [.null, .null, .ref q_1, .null, .null])), (q_1, .inl (tyI D, 144, .inl (nf (fun _ => 0))))]) O hiX3_init_X3 tyX3 tyX3_ok nmX3 0 rfl rfl 2 (by decide) (by decide +kernel) rfl rfl rfl (tyX3_ok 2 (by decide)) rfl rfl (Nat.le_of_ble_eq_true rfl) dX3_init_10 rfl ?_
  refine g_aload_n O dX3_init_13 0 rfl rfl ?_
  refine g_sipush (x := (nI 144)) O dX3_init_14 (by decide +kernel) ?_
  refine g_newI (N := 144) O (by decide +kernel) (nI_pos (by decide)) (nI_clamp (by decide)) (by decide) (by decide) (by decide) dX3_init_17 (fun q_2 => ?_)
  refine g_eq (ws' := [(m0, .inr (3, [.null, .null, .ref q_1, .null, .null])), (q_1, .inl (tyI D, 144, .inl (nf (fun _ => 0)))), (q_2, .inl (tyI D, 144, .inl (nf (fun _ => 0))))]) rfl rfl (by rfl) ?_
  refine g_putF (ws' := [(m0, .inr (3, [.null, .null, .ref q_1, .ref q_2, .null])), (q_1, .inl (tyI D, 144, .inl (nf (fun _ => 0)))), (q_2, .inl (tyI D, 144, .inl (nf (fun _ => 0))))]) O hiX3_init_X3 tyX3 tyX3_ok nmX3 0 rfl rfl 3 (by decide) (by decide +kernel) rfl rfl rfl (tyX3_ok 3 (by decide)) rfl rfl (Nat.le_of_ble_eq_true rfl) dX3_init_19 rfl ?_
  refine g_aload_n O dX3_init_22 0 rfl rfl ?_
  refine g_sipush (x := (nI 144)) O dX3_init_23 (by decide +kernel) ?_
  refine g_newI (N := 144) O (by decide +kernel) (nI_pos (by decide)) (nI_clamp (by decide)) (by decide) (by decide) (by decide) dX3_init_26 (fun q_3 => ?_)
  refine g_eq (ws' := [(m0, .inr (3, [.null, .null, .ref q_1, .ref q_2, .null])), (q_1, .inl (tyI D, 144, .inl (nf (fun _ => 0)))), (q_2, .inl (tyI D, 144, .inl (nf (fun _ => 0)))), (q_3, .inl (tyI D, 144, .inl (nf (fun _ => 0))))]) rfl rfl (by rfl) ?_
  refine g_putF (ws' := [(m0, .inr (3, [.null, .null, .ref q_1, .ref q_2, .ref q_3])), (q_1, .inl (tyI D, 144, .inl (nf (fun _ => 0)))), (q_2, .inl (tyI D, 144, .inl (nf (fun _ => 0)))), (q_3, .inl (tyI D, 144, .inl (nf (fun _ => 0))))]) O hiX3_init_X3 tyX3 tyX3_ok nmX3 0 rfl rfl 4 (by decide) (by decide +kernel) rfl rfl rfl (tyX3_ok 4 (by decide)) rfl rfl (Nat.le_of_ble_eq_true rfl) dX3_init_28 rfl ?_
  refine g_aload_n O dX3_init_31 0 rfl rfl ?_
  refine g_aload_n O dX3_init_32 1 rfl rfl ?_
  refine g_putF (ws' := [(m0, .inr (3, [.ref w0, .null, .ref q_1, .ref q_2, .ref q_3])), (q_1, .inl (tyI D, 144, .inl (nf (fun _ => 0)))), (q_2, .inl (tyI D, 144, .inl (nf (fun _ => 0)))), (q_3, .inl (tyI D, 144, .inl (nf (fun _ => 0))))]) O hiX3_init_X3 tyX3 tyX3_ok nmX3 0 rfl rfl 0 (by decide) (by decide +kernel) rfl rfl rfl (tyX3_ok 0 (by decide)) rfl rfl (Nat.le_of_ble_eq_true rfl) dX3_init_33 rfl ?_
  refine g_aload_n O dX3_init_36 0 rfl rfl ?_
  refine g_aload_n O dX3_init_37 2 rfl rfl ?_
  refine g_putF (ws' := [(m0, .inr (3, [.ref w0, .ref h0, .ref q_1, .ref q_2, .ref q_3])), (q_1, .inl (tyI D, 144, .inl (nf (fun _ => 0)))), (q_2, .inl (tyI D, 144, .inl (nf (fun _ => 0)))), (q_3, .inl (tyI D, 144, .inl (nf (fun _ => 0))))]) O hiX3_init_X3 tyX3 tyX3_ok nmX3 0 rfl rfl 1 (by decide) (by decide +kernel) rfl rfl rfl (tyX3_ok 1 (by decide)) rfl rfl (Nat.le_of_ble_eq_true rfl) dX3_init_38 rfl ?_
  exact E 41 _ _ dX3_init_41 (⟨_, _, _, rfl, rfl⟩)
