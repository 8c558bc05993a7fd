/-! the law's small methods -/
set_option maxHeartbeats 4000000 in
set_option maxRecDepth 100000 in
/-- low: a number below k -/
theorem kL_low (l : Launch) (D : va_G) (z : Nat × Nat × Nat) (v : Int32) (k : Nat) (hk : 0 < k) (hk2 : k < 2147483648) : CM l yL_low wsL_low ({ frames := 0, cells := 0, slots := 0, locals := 0 } : Room) D z [.int v, .int (nI k)] [] (fun r w => (∃ x, (∃ j, j < k ∧ x = Value.int (nI j)) ∧ r = some x) ∧ w = []) 0 0 := by
  refine CM_int (own := RL) (cc := cL_low) (maxL := 2) (L0 := [(0, .int v), (1, .int (nI k))]) (by decide) rfl rfl (Nat.le_of_ble_eq_true rfl) rfl (fun X O E => ?_)
  refine g_iload_n O dL_low_0 0 rfl rfl ?_
  refine g_ldc (x := 2147483647) O (by decide +kernel) dL_low_1 ?_
  refine g_iand O dL_low_3 ?_
  obtain ⟨q, hq, hqe⟩ := pk_andE v (m := 2147483647) 31 (by decide +kernel)
  refine g_eq (st' := [.int (nI q)]) (by rw [hqe]) rfl rfl ?_
  refine g_iload_n O dL_low_4 1 rfl rfl ?_
  refine g_iremN O (by omega) hk hk2 dL_low_5 ?_
  exact E 6 _ (nI (q % k)) _ dL_low_6 ⟨⟨_, ⟨q % k, Nat.mod_lt _ hk, rfl⟩, rfl⟩, rfl⟩
set_option maxHeartbeats 4000000 in
set_option maxRecDepth 100000 in
/-- cell: a number of the script, or one that the law makes -/
theorem kL_cell (l : Launch) (D : va_G) (z : Nat × Nat × Nat) (bb K : Nat) (xs : Nat → Int32) (i : Nat) (hi : i < 2147483648) (hK : K < 2147483648) : CMX l yL_cell wsL_cell ({ frames := 0, cells := 0, slots := 0, locals := 0 } : Room) D z [.ref bb, .int (nI i)] bb K xs (fun r w => (∃ x, (∃ v, x = Value.int v) ∧ r = some x) ∧ w = []) := by
  refine CMX_int (own := RL) (cc := cL_cell) (maxL := 2) (L0 := [(0, .ref bb), (1, .int (nI i))]) (by decide) rfl rfl (Nat.le_of_ble_eq_true rfl) rfl (fun X O S E => ?_)
  refine g_iload_n O dL_cell_0 1 rfl rfl ?_
  refine g_aload_n O dL_cell_1 0 rfl rfl ?_
  refine g_slen O S dL_cell_2 ?_
  refine g_icmp_geN (tgt := 12) O hi hK dL_cell_3 (by decide) (fun c => ?_) (fun c => ?_)
  · refine g_sipush (x := nI 7919) O dL_cell_12 (by decide +kernel) ?_
    refine g_iload_n O dL_cell_15 1 rfl rfl ?_
    refine g_iconst (x := nI 3) O dL_cell_16 (by decide +kernel) ?_
    refine g_iadd O dL_cell_17 ?_
    refine g_imul O dL_cell_18 ?_
    refine g_iload_n O dL_cell_19 1 rfl rfl ?_
    refine g_bipush (x := nI 11) O dL_cell_20 (by decide +kernel) ?_
    refine g_iadd O dL_cell_22 ?_
    refine g_imul O dL_cell_23 ?_
    exact E 24 _ _ _ dL_cell_24 ⟨⟨_, ⟨_, rfl⟩, rfl⟩, rfl⟩
  · refine g_aload_n O dL_cell_6 0 rfl rfl ?_
    refine g_iload_n O dL_cell_7 1 rfl rfl ?_
    refine g_sld O S c hK dL_cell_8 ?_
    refine g_goto (tgt := 24) O dL_cell_9 (by decide) ?_
    exact E 24 _ _ _ dL_cell_24 ⟨⟨_, ⟨_, rfl⟩, rfl⟩, rfl⟩
set_option maxHeartbeats 4000000 in
set_option maxRecDepth 100000 in
/-- placeOf: the place of a bow -/
theorem kL_placeOf (l : Launch) (D : va_G) (z : Nat × Nat × Nat) (sd al : Nat) (hs : sd < 4) (ha : al < 12) : CM l yL_placeOf wsL_placeOf ({ frames := 0, cells := 0, slots := 0, locals := 0 } : Room) D z [.int (nI sd), .int (nI al)] [] (fun r w => (∃ x, x = Value.int (nI (bpN sd al)) ∧ r = some x) ∧ w = []) 0 0 := by
  refine CM_int (own := RL) (cc := cL_placeOf) (maxL := 2) (L0 := [(0, .int (nI sd)), (1, .int (nI al))]) (by decide) rfl rfl (Nat.le_of_ble_eq_true rfl) rfl (fun X O E => ?_)
  refine g_iload_n O dL_placeOf_0 0 rfl rfl ?_
  refine g_if_neN (tgt := 8) O (by omega) dL_placeOf_1 (by decide) (fun c0 => ?_) (fun c0 => ?_)
  · refine g_iload_n O dL_placeOf_8 0 rfl rfl ?_
    refine g_iconst (x := nI 1) O dL_placeOf_9 (by decide +kernel) ?_
    refine g_icmp_neN (tgt := 23) O (by omega) (by omega) dL_placeOf_10 (by decide) (fun c1 => ?_) (fun c1 => ?_)
    · refine g_iload_n O dL_placeOf_23 0 rfl rfl ?_
      refine g_iconst (x := nI 2) O dL_placeOf_24 (by decide +kernel) ?_
      refine g_icmp_neN (tgt := 36) O (by omega) (by omega) dL_placeOf_25 (by decide) (fun c2 => ?_) (fun c2 => ?_)
      · refine g_bipush (x := nI 12) O dL_placeOf_36 (by decide +kernel) ?_
        refine g_iload_n O dL_placeOf_38 1 rfl rfl ?_
        refine g_imulN O dL_placeOf_39 ?_
        exact E 40 _ _ _ dL_placeOf_40 ⟨⟨_, by simp only [bpN]; rw [if_neg (by omega), if_neg c1, if_neg c2], rfl⟩, rfl⟩
      · refine g_sipush (x := nI 132) O dL_placeOf_28 (by decide +kernel) ?_
        refine g_iload_n O dL_placeOf_31 1 rfl rfl ?_
        refine g_iaddN O dL_placeOf_32 ?_
        refine g_goto (tgt := 40) O dL_placeOf_33 (by decide) ?_
        exact E 40 _ _ _ dL_placeOf_40 ⟨⟨_, by simp only [bpN]; rw [if_neg (by omega), if_neg c1, if_pos c2], rfl⟩, rfl⟩
    · refine g_bipush (x := nI 12) O dL_placeOf_13 (by decide +kernel) ?_
      refine g_iload_n O dL_placeOf_15 1 rfl rfl ?_
      refine g_imulN O dL_placeOf_16 ?_
      refine g_bipush (x := nI 11) O dL_placeOf_17 (by decide +kernel) ?_
      refine g_iaddN O dL_placeOf_19 ?_
      refine g_goto (tgt := 40) O dL_placeOf_20 (by decide) ?_
      exact E 40 _ _ _ dL_placeOf_40 ⟨⟨_, by simp only [bpN]; rw [if_neg (by omega), if_pos c1], rfl⟩, rfl⟩
  · refine g_iload_n O dL_placeOf_4 1 rfl rfl ?_
    refine g_goto (tgt := 40) O dL_placeOf_5 (by decide) ?_
    exact E 40 _ _ _ dL_placeOf_40 ⟨⟨_, by simp only [bpN]; rw [if_pos c0], rfl⟩, rfl⟩
