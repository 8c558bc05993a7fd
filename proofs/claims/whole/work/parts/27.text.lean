theorem hiX6_append_X6 : ∀ w ∈ wsX60, w ∈ wsX6_append := by decide +kernel
set_option maxHeartbeats 2000000 in
set_option maxRecDepth 100000 in
/-- a character more -/
theorem kX6_append (l : Launch) (D : va_G) (z : Nat × Nat × Nat) (t0 : Nat) (t1 : Nat) (p0 : Nat) (len : Nat) (cur : Nat) (tx : Nat → Nat) (x : Nat) (hl : len < 60) (hx : x < 65536) : CM l yX6_append wsX6_append ({ frames := 0, cells := 0, slots := 0, locals := 0 } : Room) D z [.ref t0, .int (nI x)] [(t0, .inr (6, [.ref t1, .int (nI len), .ref p0, .int (nI cur)])), (t1, .inl (tyC D, 60, .inl (nf tx)))] (fun r_ w_ => r_ = none ∧ w_ = [(t0, .inr (6, [.ref t1, .int (nI (len + 1)), .ref p0, .int (nI cur)])), (t1, .inl (tyC D, 60, .inl (nf (upf tx len x))))]) 0 0 := by
  refine CM_void (own := RX6) (cc := cX6_append) (maxL := 2) (L0 := [(0, .ref t0), (1, .int (nI x))]) (by decide) rfl rfl (Nat.le_of_ble_eq_true rfl) rfl (fun X O E => ?_)
  refine g_aload_n O dX6_append_0 0 rfl rfl ?_
  refine g_get O hiX6_append_X6 0 rfl rfl 1 (by decide) (by decide +kernel) rfl dX6_append_1 ?_
  refine g_bipush (x := (nI 60)) O dX6_append_4 (by decide +kernel) ?_
  refine g_icmp_geN (tgt := 29) O (by omega) (by omega) dX6_append_6 (by decide) (fun c_1 => (by exfalso; omega)) (fun c_1 => ?_)
  refine g_aload_n O dX6_append_9 0 rfl rfl ?_
  refine g_get O hiX6_append_X6 0 rfl rfl 0 (by decide) (by decide +kernel) rfl dX6_append_10 ?_
  refine g_aload_n O dX6_append_13 0 rfl rfl ?_
  refine g_get O hiX6_append_X6 0 rfl rfl 1 (by decide) (by decide +kernel) rfl dX6_append_14 ?_
  refine g_iload_n O dX6_append_17 1 rfl rfl ?_
  refine g_castN (f' := (nf (upf tx len x))) (ws' := [(t0, .inr (6, [.ref t1, .int (nI len), .ref p0, .int (nI cur)])), (t1, .inl (tyC D, 60, .inl (nf (upf tx len x))))]) O 1 rfl (by omega) (by omega) dX6_append_18 (cf_upd (by omega)) rfl ?_
  refine g_aload_n O dX6_append_19 0 rfl rfl ?_
  refine g_dup O dX6_append_20 rfl ?_
  refine g_get O hiX6_append_X6 0 rfl rfl 1 (by decide) (by decide +kernel) rfl dX6_append_21 ?_
  refine g_iconst (x := (nI 1)) O dX6_append_24 (by decide +kernel) ?_
  refine g_iaddN O dX6_append_25 ?_
  refine g_put (ws' := [(t0, .inr (6, [.ref t1, .int (nI (len + 1)), .ref p0, .int (nI cur)])), (t1, .inl (tyC D, 60, .inl (nf (upf tx len x))))]) O hiX6_append_X6 tyX6 tyX6_ok nmX6 0 rfl rfl 1 (by decide) (by decide +kernel) rfl (tyX6_ok 1 (by decide)) rfl rfl (Nat.le_of_ble_eq_true rfl) dX6_append_26 rfl ?_
  exact E 29 _ _ dX6_append_29 ⟨rfl, rfl⟩

theorem hiX6_fault_X6 : ∀ w ∈ wsX60, w ∈ wsX6_fault := by decide +kernel
set_option maxHeartbeats 2000000 in
set_option maxRecDepth 100000 in
/-- where reading stopped -/
theorem kX6_fault (l : Launch) (D : va_G) (z : Nat × Nat × Nat) (t0 : Nat) (t1 : Nat) (p0 : Nat) (len : Nat) (cur : Nat) (tx : Nat → Nat)  : CM l yX6_fault wsX6_fault ({ frames := 0, cells := 0, slots := 0, locals := 0 } : Room) D z [.ref t0] [(t0, .inr (6, [.ref t1, .int (nI len), .ref p0, .int (nI cur)])), (t1, .inl (tyC D, 60, .inl (nf tx)))] (fun r_ w_ => r_ = some (.int (nI cur)) ∧ w_ = [(t0, .inr (6, [.ref t1, .int (nI len), .ref p0, .int (nI cur)])), (t1, .inl (tyC D, 60, .inl (nf tx)))]) 0 0 := by
  refine CM_int (own := RX6) (cc := cX6_fault) (maxL := 1) (L0 := [(0, .ref t0)]) (by decide) rfl rfl (Nat.le_of_ble_eq_true rfl) rfl (fun X O E => ?_)
  refine g_aload_n O dX6_fault_0 0 rfl rfl ?_
  refine g_get O hiX6_fault_X6 0 rfl rfl 3 (by decide) (by decide +kernel) rfl dX6_fault_1 ?_
  exact E 4 _ (nI cur) _ dX6_fault_4 ⟨rfl, rfl⟩

theorem hiX6_next_X6 : ∀ w ∈ wsX60, w ∈ wsX6_next := by decide +kernel
set_option maxHeartbeats 2000000 in
set_option maxRecDepth 100000 in
/-- the character at the place -/
theorem kX6_next (l : Launch) (D : va_G) (z : Nat × Nat × Nat) (t0 : Nat) (t1 : Nat) (p0 : Nat) (len : Nat) (cur : Nat) (tx : Nat → Nat) (hl : len ≤ 60) (hc : cur ≤ 1000) : CM l yX6_next wsX6_next ({ frames := 0, cells := 0, slots := 0, locals := 0 } : Room) D z [.ref t0] [(t0, .inr (6, [.ref t1, .int (nI len), .ref p0, .int (nI cur)])), (t1, .inl (tyC D, 60, .inl (nf tx)))] (fun r_ w_ => r_ = some (.int (orM (chO tx len cur))) ∧ w_ = [(t0, .inr (6, [.ref t1, .int (nI len), .ref p0, .int (nI cur)])), (t1, .inl (tyC D, 60, .inl (nf tx)))]) 0 0 := by
  refine CM_int (own := RX6) (cc := cX6_next) (maxL := 2) (L0 := [(0, .ref t0)]) (by decide) rfl rfl (Nat.le_of_ble_eq_true rfl) rfl (fun X O E => ?_)
  refine g_aload_n O dX6_next_0 0 rfl rfl ?_
  refine g_get O hiX6_next_X6 0 rfl rfl 3 (by decide) (by decide +kernel) rfl dX6_next_1 ?_
  refine g_if_ltN (tgt := 31) O (by omega) dX6_next_4 (by decide) ?_
  refine g_aload_n O dX6_next_7 0 rfl rfl ?_
  refine g_get O hiX6_next_X6 0 rfl rfl 3 (by decide) (by decide +kernel) rfl dX6_next_8 ?_
  refine g_aload_n O dX6_next_11 0 rfl rfl ?_
  refine g_get O hiX6_next_X6 0 rfl rfl 1 (by decide) (by decide +kernel) rfl dX6_next_12 ?_
  refine g_icmp_geN (tgt := 31) O (by omega) (by omega) dX6_next_15 (by decide) (fun c_2 => ?_) (fun c_2 => ?_)
  ·
    have he := chO_n (tx := tx) (len := len) (c := cur) (by omega)
    refine g_iconst (x := (nI 0)) O dX6_next_31 (by decide +kernel) ?_
    refine g_istore_n (L' := [(0, .ref t0), (1, .int (nI 0))]) O dX6_next_32 rfl (by decide) [1, 0] rfl ?_
    refine g_iload_n O dX6_next_33 1 rfl rfl ?_
    refine g_if_eqN (tgt := 49) O (by omega) dX6_next_34 (by decide) (fun c_3 => ?_) (fun c_3 => absurd c_3 (by decide))
    refine g_iconst (x := (-1)) O dX6_next_49 (by decide +kernel) ?_
    exact E 50 _ (-1) _ dX6_next_50 (by rw [he]; exact ⟨rfl, rfl⟩)
  ·
    have he := chO_s (tx := tx) (len := len) (c := cur) (by omega)
    refine g_aload_n O dX6_next_18 0 rfl rfl ?_
    refine g_get O hiX6_next_X6 0 rfl rfl 3 (by decide) (by decide +kernel) rfl dX6_next_19 ?_
    refine g_bipush (x := (nI 60)) O dX6_next_22 (by decide +kernel) ?_
    refine g_icmp_geN (tgt := 31) O (by omega) (by omega) dX6_next_24 (by decide) (fun c_4 => (by exfalso; omega)) (fun c_4 => ?_)
    refine g_iconst (x := (nI 1)) O dX6_next_27 (by decide +kernel) ?_
    refine g_goto (tgt := 32) O dX6_next_28 (by decide) ?_
    refine g_istore_n (L' := [(0, .ref t0), (1, .int (nI 1))]) O dX6_next_32 rfl (by decide) [1, 0] rfl ?_
    refine g_iload_n O dX6_next_33 1 rfl rfl ?_
    refine g_if_eqN (tgt := 49) O (by omega) dX6_next_34 (by decide) (fun c_5 => absurd c_5 (by decide)) (fun c_5 => ?_)
    refine g_aload_n O dX6_next_37 0 rfl rfl ?_
    refine g_get O hiX6_next_X6 0 rfl rfl 0 (by decide) (by decide +kernel) rfl dX6_next_38 ?_
    refine g_aload_n O dX6_next_41 0 rfl rfl ?_
    refine g_get O hiX6_next_X6 0 rfl rfl 3 (by decide) (by decide +kernel) rfl dX6_next_42 ?_
    refine g_caldN O 1 rfl (by omega) (by omega) dX6_next_45 ?_
    refine g_goto (tgt := 50) O dX6_next_46 (by decide) ?_
    exact E 50 _ (nI (tx cur)) _ dX6_next_50 (by rw [he]; exact ⟨rfl, rfl⟩)

set_option maxHeartbeats 2000000 in
set_option maxRecDepth 100000 in
/-- the digit of a character -/
theorem kX6_digitOf (l : Launch) (D : va_G) (z : Nat × Nat × Nat) (o : Option Nat) (ho : ∀ k, o = some k → k < 65536) : CM l yX6_digitOf wsX6_digitOf ({ frames := 0, cells := 0, slots := 0, locals := 0 } : Room) D z [.int (orM o)] [] (fun r_ w_ => r_ = some (.int (orM (dgO o))) ∧ w_ = []) 0 0 := by
  refine CM_int (own := RX6) (cc := cX6_digitOf) (maxL := 1) (L0 := [(0, .int (orM o))]) (by decide) rfl rfl (Nat.le_of_ble_eq_true rfl) rfl (fun X O E => ?_)
  cases o with
  | none =>
    refine g_eq (L' := [(0, .int (-1))]) rfl rfl rfl ?_
    refine g_iload_n O dX6_digitOf_0 0 rfl rfl ?_
    refine g_bipush (x := (nI 48)) O dX6_digitOf_1 (by decide +kernel) ?_
    refine g_icmp_lt (tgt := 19) O dX6_digitOf_3 (by decide) (fun c_1 => ?_) (fun c_1 => absurd c_1 (by decide))
    refine g_iconst (x := (-1)) O dX6_digitOf_19 (by decide +kernel) ?_
    exact E 20 _ (-1) _ dX6_digitOf_20 (by first | (rw [he]; exact ⟨rfl, rfl⟩) | exact ⟨rfl, rfl⟩)
  | some k =>
    have hk := ho k rfl
    refine g_eq (L' := [(0, .int (nI k))]) rfl rfl rfl ?_
    refine g_iload_n O dX6_digitOf_0 0 rfl rfl ?_
    refine g_bipush (x := (nI 48)) O dX6_digitOf_1 (by decide +kernel) ?_
    refine g_icmp_ltN (tgt := 19) O (by omega) (by omega) dX6_digitOf_3 (by decide) (fun c_2 => ?_) (fun c_2 => ?_)
    ·
      have he : dgO (some k) = none := by simp only [dgO]; rw [if_neg (by omega)]
      refine g_iconst (x := (-1)) O dX6_digitOf_19 (by decide +kernel) ?_
      exact E 20 _ (-1) _ dX6_digitOf_20 (by first | (rw [he]; exact ⟨rfl, rfl⟩) | exact ⟨rfl, rfl⟩)
    ·
      refine g_iload_n O dX6_digitOf_6 0 rfl rfl ?_
      refine g_bipush (x := (nI 57)) O dX6_digitOf_7 (by decide +kernel) ?_
      refine g_icmp_gtN (tgt := 19) O (by omega) (by omega) dX6_digitOf_9 (by decide) (fun c_3 => ?_) (fun c_3 => ?_)
      ·
        have he : dgO (some k) = none := by simp only [dgO]; rw [if_neg (by omega)]
        refine g_iconst (x := (-1)) O dX6_digitOf_19 (by decide +kernel) ?_
        exact E 20 _ (-1) _ dX6_digitOf_20 (by first | (rw [he]; exact ⟨rfl, rfl⟩) | exact ⟨rfl, rfl⟩)
      ·
        have he : dgO (some k) = some (k - 48) := by simp only [dgO]; rw [if_pos (by omega)]
        refine g_iload_n O dX6_digitOf_12 0 rfl rfl ?_
        refine g_bipush (x := (nI 48)) O dX6_digitOf_13 (by decide +kernel) ?_
        refine g_isubN O (by omega) dX6_digitOf_15 ?_
        refine g_goto (tgt := 20) O dX6_digitOf_16 (by decide) ?_
        exact E 20 _ (nI (k - 48)) _ dX6_digitOf_20 (by first | (rw [he]; exact ⟨rfl, rfl⟩) | exact ⟨rfl, rfl⟩)

set_option maxHeartbeats 2000000 in
set_option maxRecDepth 100000 in
/-- the side of a character -/
theorem kX6_sideOf (l : Launch) (D : va_G) (z : Nat × Nat × Nat) (o : Option Nat) (ho : ∀ k, o = some k → k < 65536) : CM l yX6_sideOf wsX6_sideOf ({ frames := 0, cells := 0, slots := 0, locals := 0 } : Room) D z [.int (orM o)] [] (fun r_ w_ => r_ = some (.int (orM (sdO o))) ∧ w_ = []) 0 0 := by
  refine CM_int (own := RX6) (cc := cX6_sideOf) (maxL := 1) (L0 := [(0, .int (orM o))]) (by decide) rfl rfl (Nat.le_of_ble_eq_true rfl) rfl (fun X O E => ?_)
  cases o with
  | none =>
    refine g_eq (L' := [(0, .int (-1))]) rfl rfl rfl ?_
    refine g_iload_n O dX6_sideOf_0 0 rfl rfl ?_
    refine g_lookup (off := 51) (tgt := 52) O dX6_sideOf_1 (by decide) (by decide +kernel) (by decide) ?_
    refine g_iconst (x := (-1)) O dX6_sideOf_52 (by decide +kernel) ?_
    exact E 53 _ (-1) _ dX6_sideOf_53 ⟨rfl, rfl⟩
  | some k =>
    have hk := ho k rfl
    by_cases h116 : k = 116
    · subst h116
      refine g_eq (L' := [(0, .int (nI 116))]) rfl rfl rfl ?_
      refine g_iload_n O dX6_sideOf_0 0 rfl rfl ?_
      refine g_lookup (off := 43) (tgt := 44) O dX6_sideOf_1 (by decide) (by decide +kernel) (by decide) ?_
      refine g_iconst (x := (nI 0)) O dX6_sideOf_44 (by decide +kernel) ?_
      exact E 45 _ (nI 0) _ dX6_sideOf_45 ⟨rfl, rfl⟩
    by_cases h114 : k = 114
    · subst h114
      refine g_eq (L' := [(0, .int (nI 114))]) rfl rfl rfl ?_
      refine g_iload_n O dX6_sideOf_0 0 rfl rfl ?_
      refine g_lookup (off := 45) (tgt := 46) O dX6_sideOf_1 (by decide) (by decide +kernel) (by decide) ?_
      refine g_iconst (x := (nI 1)) O dX6_sideOf_46 (by decide +kernel) ?_
      exact E 47 _ (nI 1) _ dX6_sideOf_47 ⟨rfl, rfl⟩
    by_cases h98 : k = 98
    · subst h98
      refine g_eq (L' := [(0, .int (nI 98))]) rfl rfl rfl ?_
      refine g_iload_n O dX6_sideOf_0 0 rfl rfl ?_
      refine g_lookup (off := 47) (tgt := 48) O dX6_sideOf_1 (by decide) (by decide +kernel) (by decide) ?_
      refine g_iconst (x := (nI 2)) O dX6_sideOf_48 (by decide +kernel) ?_
      exact E 49 _ (nI 2) _ dX6_sideOf_49 ⟨rfl, rfl⟩
    by_cases h108 : k = 108
    · subst h108
      refine g_eq (L' := [(0, .int (nI 108))]) rfl rfl rfl ?_
      refine g_iload_n O dX6_sideOf_0 0 rfl rfl ?_
      refine g_lookup (off := 49) (tgt := 50) O dX6_sideOf_1 (by decide) (by decide +kernel) (by decide) ?_
      refine g_iconst (x := (nI 3)) O dX6_sideOf_50 (by decide +kernel) ?_
      exact E 51 _ (nI 3) _ dX6_sideOf_51 ⟨rfl, rfl⟩
    have he : sdO (some k) = none := by simp only [sdO, sdN]; rw [if_neg h116, if_neg h114, if_neg h98, if_neg h108]
    refine g_eq (L' := [(0, .int (nI k))]) rfl rfl rfl ?_
    refine g_iload_n O dX6_sideOf_0 0 rfl rfl ?_
    refine g_lookup (off := 51) (tgt := 52) O dX6_sideOf_1 (by decide) (by rw [nI_toInt (by omega)]; show (if (98 : Int) = (k : Int) then (47 : Int) else if (108 : Int) = (k : Int) then 49 else if (114 : Int) = (k : Int) then 45 else if (116 : Int) = (k : Int) then 43 else 51) = 51; rw [if_neg (by omega), if_neg (by omega), if_neg (by omega), if_neg (by omega)]) (by decide) ?_
    refine g_iconst (x := (-1)) O dX6_sideOf_52 (by decide +kernel) ?_
    exact E 53 _ (-1) _ dX6_sideOf_53 (by rw [he]; exact ⟨rfl, rfl⟩)

theorem hiX6_readNumber_X6 : ∀ w ∈ wsX60, w ∈ wsX6_readNumber := by decide +kernel
set_option maxHeartbeats 2000000 in
set_option maxRecDepth 100000 in
/-- a number is read -/
theorem kX6_readNumber (l : Launch) (D : va_G) (z : Nat × Nat × Nat) (t0 : Nat) (t1 : Nat) (p0 : Nat) (len : Nat) (cur : Nat) (tx : Nat → Nat) (lo : Nat) (hi : Nat) (hl : len ≤ 60) (hc : cur ≤ 900) (hlo : lo ≤ 1) (hhi : hi ≤ 20) (hh9 : 9 ≤ hi) (htx : ∀ j, j < len → tx j < 65536) : CM l yX6_readNumber wsX6_readNumber ({ frames := 1, cells := 0, slots := 0, locals := 21 } : Room) D z [.ref t0, .int (nI lo), .int (nI hi)] [(t0, .inr (6, [.ref t1, .int (nI len), .ref p0, .int (nI cur)])), (t1, .inl (tyC D, 60, .inl (nf tx)))] (fun r_ w_ => r_ = some (.int (orM (rdN tx len cur lo hi).1)) ∧ w_ = [(t0, .inr (6, [.ref t1, .int (nI len), .ref p0, .int (nI ((rdN tx len cur lo hi).2))])), (t1, .inl (tyC D, 60, .inl (nf tx)))]) 0 0 := by
  refine CM_int (own := RX6) (cc := cX6_readNumber) (maxL := 6) (L0 := [(0, .ref t0), (1, .int (nI lo)), (2, .int (nI hi))]) (by decide) rfl rfl (Nat.le_of_ble_eq_true rfl) rfl (fun X O E => ?_)
  refine g_aload_n O dX6_readNumber_0 0 rfl rfl ?_
  refine g_callV (As := []) (wr := []) O (kX6_next l D z t0 t1 p0 len cur tx (by first | assumption | omega) (by first | assumption | omega)) gX6_readNumber_X6_next rfl rfl rfl 0 (by decide +kernel) (by decide) (by decide) (q0 := 0) rfl rfl rfl [0, 1] [] rfl (by decide) rfl (by decide) (by decide) rfl rfl (Nat.le_of_ble_eq_true rfl) dX6_readNumber_1 (fun r_1 w_2 hp => ?_)
  obtain ⟨rfl, rfl⟩ := hp
  refine g_eq (st' := [.int (orM (chO tx len cur))]) (ws' := [(t0, .inr (6, [.ref t1, .int (nI len), .ref p0, .int (nI cur)])), (t1, .inl (tyC D, 60, .inl (nf tx)))]) rfl rfl rfl ?_
  refine g_callS (As := [.int (orM (chO tx len cur))]) (wr := [(t0, .inr (6, [.ref t1, .int (nI len), .ref p0, .int (nI cur)])), (t1, .inl (tyC D, 60, .inl (nf tx)))]) O (kX6_digitOf l D z (chO tx len cur) (fun k hk => by by_cases hcl : cur < len; (rw [chO_s hcl] at hk; cases hk; exact htx _ hcl); (rw [chO_n hcl] at hk; cases hk))) gX6_readNumber_X6_digitOf rfl rfl rfl 1 (by decide +kernel) (by decide) (by decide) [] [0, 1] rfl (by decide) rfl (by decide) (by decide) rfl rfl (Nat.le_of_ble_eq_true rfl) dX6_readNumber_4 (fun r_3 w_4 hp => ?_)
  obtain ⟨rfl, rfl⟩ := hp
  refine g_eq (st' := [.int (orM (dgO (chO tx len cur)))]) (ws' := [(t0, .inr (6, [.ref t1, .int (nI len), .ref p0, .int (nI cur)])), (t1, .inl (tyC D, 60, .inl (nf tx)))]) rfl rfl rfl ?_
  cases hd1 : dgO (chO tx len cur) with
  | none =>
    have he : rdN tx len cur lo hi = (none, cur) := by simp only [rdN]; rw [hd1]
    refine g_eq (st' := [.int (-1)]) rfl rfl rfl ?_
    refine g_istore_n (L' := [(0, .ref t0), (1, .int (nI lo)), (2, .int (nI hi)), (3, .int (-1))]) O dX6_readNumber_7 rfl (by decide) [1, 2, 3, 0] rfl ?_
    refine g_iload_n O dX6_readNumber_8 3 rfl rfl ?_
    refine g_iconst (x := (-1)) O dX6_readNumber_9 (by decide +kernel) ?_
    refine g_icmp_eq (tgt := 18) O dX6_readNumber_10 (by decide) (fun c_5 => ?_) (fun c_5 => absurd c_5 (fun h => h rfl))
    refine g_iconst (x := (-1)) O dX6_readNumber_18 (by decide +kernel) ?_
    exact E 19 _ (-1) _ dX6_readNumber_19 (by rw [he]; exact ⟨rfl, rfl⟩)
  | some v1 =>
    have hv1 := dgO_lt hd1
    refine g_eq (st' := [.int (nI v1)]) rfl rfl rfl ?_
    refine g_istore_n (L' := [(0, .ref t0), (1, .int (nI lo)), (2, .int (nI hi)), (3, .int (nI v1))]) O dX6_readNumber_7 rfl (by decide) [1, 2, 3, 0] rfl ?_
    refine g_iload_n O dX6_readNumber_8 3 rfl rfl ?_
    refine g_iconst (x := (-1)) O dX6_readNumber_9 (by decide +kernel) ?_
    refine g_icmp_eq (tgt := 18) O dX6_readNumber_10 (by decide) (fun c_6 => (by exact absurd ((orM_m1 (o := some v1) (fun k hk => by cases hk; omega)).mp c_6) (by simp))) (fun c_6 => ?_)
    refine g_iload_n O dX6_readNumber_13 3 rfl rfl ?_
    refine g_iload_n O dX6_readNumber_14 1 rfl rfl ?_
    refine g_icmp_geN (tgt := 20) O (by omega) (by omega) dX6_readNumber_15 (by decide) (fun c_7 => ?_) (fun c_7 => ?_)
    ·
      refine g_aload_n O dX6_readNumber_20 0 rfl rfl ?_
      refine g_dup O dX6_readNumber_21 rfl ?_
      refine g_get O hiX6_readNumber_X6 0 rfl rfl 3 (by decide) (by decide +kernel) rfl dX6_readNumber_22 ?_
      refine g_iconst (x := (nI 1)) O dX6_readNumber_25 (by decide +kernel) ?_
      refine g_iaddN O dX6_readNumber_26 ?_
      refine g_put (ws' := [(t0, .inr (6, [.ref t1, .int (nI len), .ref p0, .int (nI (cur + 1))])), (t1, .inl (tyC D, 60, .inl (nf tx)))]) O hiX6_readNumber_X6 tyX6 tyX6_ok nmX6 0 rfl rfl 3 (by decide) (by decide +kernel) rfl (tyX6_ok 3 (by decide)) rfl rfl (Nat.le_of_ble_eq_true rfl) dX6_readNumber_27 rfl ?_
      refine g_iconst (x := (nI 1)) O dX6_readNumber_30 (by decide +kernel) ?_
      refine g_istore (L' := [(0, .ref t0), (1, .int (nI lo)), (2, .int (nI hi)), (3, .int (nI v1)), (4, .int (nI 1))]) O dX6_readNumber_31 (by decide) [1, 2, 3, 4, 0] rfl ?_
      refine g_iload O dX6_readNumber_33 4 rfl ?_
      refine g_bipush (x := (nI 60)) O dX6_readNumber_35 (by decide +kernel) ?_
      refine g_icmp_geN (tgt := 96) O (by omega) (by omega) dX6_readNumber_37 (by decide) (fun c_8 => absurd c_8 (by decide)) (fun c_8 => ?_)
      refine g_iload_n O dX6_readNumber_40 3 rfl rfl ?_
      refine g_if_leN (tgt := 96) O (by omega) dX6_readNumber_41 (by decide) (fun c_9 => ?_) (fun c_9 => ?_)
      ·
        have he : rdN tx len cur lo hi = (some 0, cur + 1) := by simp only [rdN]; rw [hd1]; dsimp only; rw [if_neg (by omega), if_pos c_9]
        subst c_9
        refine g_iload_n O dX6_readNumber_96 3 rfl rfl ?_
        exact E 97 _ (nI 0) _ dX6_readNumber_97 (by rw [he]; exact ⟨rfl, rfl⟩)
      ·
        refine g_aload_n O dX6_readNumber_44 0 rfl rfl ?_
        refine g_callV (As := []) (wr := []) O (kX6_next l D z t0 t1 p0 len (cur + 1) tx (by first | assumption | omega) (by first | assumption | omega)) gX6_readNumber_X6_next rfl rfl rfl 0 (by decide +kernel) (by decide) (by decide) (q0 := 0) rfl rfl rfl [0, 1] [] rfl (by decide) rfl (by decide) (by decide) rfl rfl (Nat.le_of_ble_eq_true rfl) dX6_readNumber_45 (fun r_10 w_11 hp => ?_)
        obtain ⟨rfl, rfl⟩ := hp
        refine g_eq (st' := [.int (orM (chO tx len (cur + 1)))]) (ws' := [(t0, .inr (6, [.ref t1, .int (nI len), .ref p0, .int (nI (cur + 1))])), (t1, .inl (tyC D, 60, .inl (nf tx)))]) rfl rfl rfl ?_
        refine g_callS (As := [.int (orM (chO tx len (cur + 1)))]) (wr := [(t0, .inr (6, [.ref t1, .int (nI len), .ref p0, .int (nI (cur + 1))])), (t1, .inl (tyC D, 60, .inl (nf tx)))]) O (kX6_digitOf l D z (chO tx len (cur + 1)) (fun k hk => txB htx hk)) gX6_readNumber_X6_digitOf rfl rfl rfl 1 (by decide +kernel) (by decide) (by decide) [] [0, 1] rfl (by decide) rfl (by decide) (by decide) rfl rfl (Nat.le_of_ble_eq_true rfl) dX6_readNumber_48 (fun r_12 w_13 hp => ?_)
        obtain ⟨rfl, rfl⟩ := hp
        refine g_eq (st' := [.int (orM (dgO (chO tx len (cur + 1))))]) (ws' := [(t0, .inr (6, [.ref t1, .int (nI len), .ref p0, .int (nI (cur + 1))])), (t1, .inl (tyC D, 60, .inl (nf tx)))]) rfl rfl rfl ?_
        cases hdd1 : dgO (chO tx len (cur + 1)) with
        | none =>
          refine g_eq (st' := [.int (-1)]) rfl rfl rfl ?_
          have he : rdN tx len cur lo hi = (some v1, cur + 1) := by simp only [rdN]; rw [hd1]; dsimp only; rw [if_neg (by omega), if_neg (by omega), hdd1]
          refine g_istore (L' := [(0, .ref t0), (1, .int (nI lo)), (2, .int (nI hi)), (3, .int (nI v1)), (4, .int (nI 1)), (5, .int (-1))]) O dX6_readNumber_51 (by decide) [1, 2, 3, 4, 5, 0] rfl ?_
          refine g_iload O dX6_readNumber_53 5 rfl ?_
          refine g_iconst (x := (-1)) O dX6_readNumber_55 (by decide +kernel) ?_
          refine g_icmp_eq (tgt := 70) O dX6_readNumber_56 (by decide) (fun c_14 => ?_) (fun c_14 => absurd c_14 (fun h => h rfl))
          refine g_iload_n O dX6_readNumber_70 3 rfl rfl ?_
          exact E 71 _ (nI v1) _ dX6_readNumber_71 (by rw [he]; exact ⟨rfl, rfl⟩)
        | some v2 =>
          have hv2 := dgO_lt hdd1
          refine g_eq (st' := [.int (nI v2)]) rfl rfl rfl ?_
          refine g_istore (L' := [(0, .ref t0), (1, .int (nI lo)), (2, .int (nI hi)), (3, .int (nI v1)), (4, .int (nI 1)), (5, .int (nI v2))]) O dX6_readNumber_51 (by decide) [1, 2, 3, 4, 5, 0] rfl ?_
          refine g_iload O dX6_readNumber_53 5 rfl ?_
          refine g_iconst (x := (-1)) O dX6_readNumber_55 (by decide +kernel) ?_
          refine g_icmp_eq (tgt := 70) O dX6_readNumber_56 (by decide) (fun c_15 => (by exact absurd ((orM_m1 (o := some v2) (fun k hk => by cases hk; omega)).mp c_15) (by simp))) (fun c_15 => ?_)
          refine g_iload_n O dX6_readNumber_59 3 rfl rfl ?_
          refine g_bipush (x := (nI 10)) O dX6_readNumber_60 (by decide +kernel) ?_
          refine g_imulN O dX6_readNumber_62 ?_
          refine g_iload O dX6_readNumber_63 5 rfl ?_
          refine g_iaddN O dX6_readNumber_65 ?_
          refine g_iload_n O dX6_readNumber_66 2 rfl rfl ?_
          refine g_icmp_leN (tgt := 72) O (by omega) (by omega) dX6_readNumber_67 (by decide) (fun c_16 => ?_) (fun c_16 => ?_)
          ·
            have he : rdN tx len cur lo hi = (some (v1 * 10 + v2), cur + 2) := by simp only [rdN]; rw [hd1]; dsimp only; rw [if_neg (by omega), if_neg (by omega), hdd1]; dsimp only; rw [if_neg (by omega)]
            refine g_iload_n O dX6_readNumber_72 3 rfl rfl ?_
            refine g_bipush (x := (nI 10)) O dX6_readNumber_73 (by decide +kernel) ?_
            refine g_imulN O dX6_readNumber_75 ?_
            refine g_iload O dX6_readNumber_76 5 rfl ?_
            refine g_iaddN O dX6_readNumber_78 ?_
            refine g_istore_n (L' := [(0, .ref t0), (1, .int (nI lo)), (2, .int (nI hi)), (3, .int (nI ((v1 * 10) + v2))), (4, .int (nI 1)), (5, .int (nI v2))]) O dX6_readNumber_79 rfl (by decide) [1, 2, 3, 0, 4, 5] rfl ?_
            refine g_aload_n O dX6_readNumber_80 0 rfl rfl ?_
            refine g_dup O dX6_readNumber_81 rfl ?_
            refine g_get O hiX6_readNumber_X6 0 rfl rfl 3 (by decide) (by decide +kernel) rfl dX6_readNumber_82 ?_
            refine g_iconst (x := (nI 1)) O dX6_readNumber_85 (by decide +kernel) ?_
            refine g_iaddN O dX6_readNumber_86 ?_
            refine g_put (ws' := [(t0, .inr (6, [.ref t1, .int (nI len), .ref p0, .int (nI ((cur + 1) + 1))])), (t1, .inl (tyC D, 60, .inl (nf tx)))]) O hiX6_readNumber_X6 tyX6 tyX6_ok nmX6 0 rfl rfl 3 (by decide) (by decide +kernel) rfl (tyX6_ok 3 (by decide)) rfl rfl (Nat.le_of_ble_eq_true rfl) dX6_readNumber_87 rfl ?_
            refine g_iincN (L' := [(0, .ref t0), (1, .int (nI lo)), (2, .int (nI hi)), (3, .int (nI ((v1 * 10) + v2))), (4, .int (nI (1 + 1))), (5, .int (nI v2))]) O dX6_readNumber_90 4 rfl (by decide) [1, 2, 3, 4, 0, 5] rfl ?_
            refine g_eq (L' := [(0, .ref t0), (1, .int (nI lo)), (2, .int (nI hi)), (3, .int (nI ((v1 * 10) + v2))), (4, .int (nI 2)), (5, .int (nI v2))]) rfl rfl rfl ?_
            refine g_goto (tgt := 33) O dX6_readNumber_93 (by decide) ?_
            refine g_iload O dX6_readNumber_33 4 rfl ?_
            refine g_bipush (x := (nI 60)) O dX6_readNumber_35 (by decide +kernel) ?_
            refine g_icmp_geN (tgt := 96) O (by omega) (by omega) dX6_readNumber_37 (by decide) (fun c_17 => absurd c_17 (by decide)) (fun c_17 => ?_)
            refine g_iload_n O dX6_readNumber_40 3 rfl rfl ?_
            refine g_if_leN (tgt := 96) O (by omega) dX6_readNumber_41 (by decide) (fun c_18 => ?_) (fun c_18 => ?_)
            ·
              exfalso; omega
            ·
              refine g_aload_n O dX6_readNumber_44 0 rfl rfl ?_
              refine g_callV (As := []) (wr := []) O (kX6_next l D z t0 t1 p0 len ((cur + 1) + 1) tx (by first | assumption | omega) (by first | assumption | omega)) gX6_readNumber_X6_next rfl rfl rfl 0 (by decide +kernel) (by decide) (by decide) (q0 := 0) rfl rfl rfl [0, 1] [] rfl (by decide) rfl (by decide) (by decide) rfl rfl (Nat.le_of_ble_eq_true rfl) dX6_readNumber_45 (fun r_19 w_20 hp => ?_)
              obtain ⟨rfl, rfl⟩ := hp
              refine g_eq (st' := [.int (orM (chO tx len ((cur + 1) + 1)))]) (ws' := [(t0, .inr (6, [.ref t1, .int (nI len), .ref p0, .int (nI ((cur + 1) + 1))])), (t1, .inl (tyC D, 60, .inl (nf tx)))]) rfl rfl rfl ?_
              refine g_callS (As := [.int (orM (chO tx len ((cur + 1) + 1)))]) (wr := [(t0, .inr (6, [.ref t1, .int (nI len), .ref p0, .int (nI ((cur + 1) + 1))])), (t1, .inl (tyC D, 60, .inl (nf tx)))]) O (kX6_digitOf l D z (chO tx len ((cur + 1) + 1)) (fun k hk => txB htx hk)) gX6_readNumber_X6_digitOf rfl rfl rfl 1 (by decide +kernel) (by decide) (by decide) [] [0, 1] rfl (by decide) rfl (by decide) (by decide) rfl rfl (Nat.le_of_ble_eq_true rfl) dX6_readNumber_48 (fun r_21 w_22 hp => ?_)
              obtain ⟨rfl, rfl⟩ := hp
              refine g_eq (st' := [.int (orM (dgO (chO tx len ((cur + 1) + 1))))]) (ws' := [(t0, .inr (6, [.ref t1, .int (nI len), .ref p0, .int (nI ((cur + 1) + 1))])), (t1, .inl (tyC D, 60, .inl (nf tx)))]) rfl rfl rfl ?_
              cases hdd2 : dgO (chO tx len (cur + 1 + 1)) with
              | none =>
                refine g_eq (st' := [.int (-1)]) rfl rfl rfl ?_
                refine g_istore (L' := [(0, .ref t0), (1, .int (nI lo)), (2, .int (nI hi)), (3, .int (nI ((v1 * 10) + v2))), (4, .int (nI 2)), (5, .int (-1))]) O dX6_readNumber_51 (by decide) [1, 2, 3, 4, 5, 0] rfl ?_
                refine g_iload O dX6_readNumber_53 5 rfl ?_
                refine g_iconst (x := (-1)) O dX6_readNumber_55 (by decide +kernel) ?_
                refine g_icmp_eq (tgt := 70) O dX6_readNumber_56 (by decide) (fun c_23 => ?_) (fun c_23 => absurd c_23 (fun h => h rfl))
                refine g_iload_n O dX6_readNumber_70 3 rfl rfl ?_
                exact E 71 _ (nI ((v1 * 10) + v2)) _ dX6_readNumber_71 (by rw [he]; exact ⟨rfl, rfl⟩)
              | some v3 =>
                have hv3 := dgO_lt hdd2
                refine g_eq (st' := [.int (nI v3)]) rfl rfl rfl ?_
                refine g_istore (L' := [(0, .ref t0), (1, .int (nI lo)), (2, .int (nI hi)), (3, .int (nI ((v1 * 10) + v2))), (4, .int (nI 2)), (5, .int (nI v3))]) O dX6_readNumber_51 (by decide) [1, 2, 3, 4, 5, 0] rfl ?_
                refine g_iload O dX6_readNumber_53 5 rfl ?_
                refine g_iconst (x := (-1)) O dX6_readNumber_55 (by decide +kernel) ?_
                refine g_icmp_eq (tgt := 70) O dX6_readNumber_56 (by decide) (fun c_24 => (by exact absurd ((orM_m1 (o := some v3) (fun k hk => by cases hk; omega)).mp c_24) (by simp))) (fun c_24 => ?_)
                refine g_iload_n O dX6_readNumber_59 3 rfl rfl ?_
                refine g_bipush (x := (nI 10)) O dX6_readNumber_60 (by decide +kernel) ?_
                refine g_imulN O dX6_readNumber_62 ?_
                refine g_iload O dX6_readNumber_63 5 rfl ?_
                refine g_iaddN O dX6_readNumber_65 ?_
                refine g_iload_n O dX6_readNumber_66 2 rfl rfl ?_
                refine g_icmp_leN (tgt := 72) O (by omega) (by omega) dX6_readNumber_67 (by decide) (fun c_25 => ?_) (fun c_25 => ?_)
                ·
                  exfalso; omega
                ·
                  refine g_iload_n O dX6_readNumber_70 3 rfl rfl ?_
                  exact E 71 _ (nI ((v1 * 10) + v2)) _ dX6_readNumber_71 (by rw [he]; exact ⟨rfl, rfl⟩)
          ·
            have he : rdN tx len cur lo hi = (some v1, cur + 1) := by simp only [rdN]; rw [hd1]; dsimp only; rw [if_neg (by omega), if_neg (by omega), hdd1]; dsimp only; rw [if_pos (by omega)]
            refine g_iload_n O dX6_readNumber_70 3 rfl rfl ?_
            exact E 71 _ (nI v1) _ dX6_readNumber_71 (by rw [he]; exact ⟨rfl, rfl⟩)
    ·
      have he : rdN tx len cur lo hi = (none, cur) := by simp only [rdN]; rw [hd1]; dsimp only; rw [if_pos (by omega)]
      refine g_iconst (x := (-1)) O dX6_readNumber_18 (by decide +kernel) ?_
      exact E 19 _ (-1) _ dX6_readNumber_19 (by rw [he]; exact ⟨rfl, rfl⟩)

theorem hiX6_readBowing_X6 : ∀ w ∈ wsX60, w ∈ wsX6_readBowing := by decide +kernel
set_option maxHeartbeats 2000000 in
set_option maxRecDepth 100000 in
/-- a bowing is read -/
theorem kX6_readBowing (l : Launch) (D : va_G) (z : Nat × Nat × Nat) (t0 : Nat) (t1 : Nat) (p0 : Nat) (p1 : Nat) (p2 : Nat) (p3 : Nat) (len : Nat) (cur : Nat) (tx : Nat → Nat) (fs : Nat → Nat) (fa : Nat → Nat) (fk : Nat → Nat) (ps : Nat) (hl : len ≤ 60) (hc : cur ≤ 800) (hp : ps < 60) (htx : ∀ j, j < len → tx j < 65536) : CM l yX6_readBowing wsX6_readBowing ({ frames := 2, cells := 0, slots := 0, locals := 46 } : Room) D z [.ref t0] [(t0, .inr (6, [.ref t1, .int (nI len), .ref p0, .int (nI cur)])), (t1, .inl (tyC D, 60, .inl (nf tx))), (p0, .inr (4, [.int (nI 60), .ref p1, .ref p2, .ref p3, .int (nI ps)])), (p1, .inl (tyI D, 60, .inl (nf fs))), (p2, .inl (tyI D, 60, .inl (nf fa))), (p3, .inl (tyI D, 60, .inl (nf fk)))] (fun r_ w_ => r_ = some (.int (bB ((rdB tx len cur).1.isSome))) ∧ w_ = [(t0, .inr (6, [.ref t1, .int (nI len), .ref p0, .int (nI ((rdB tx len cur).2))])), (t1, .inl (tyC D, 60, .inl (nf tx))), (p0, .inr (4, [.int (nI 60), .ref p1, .ref p2, .ref p3, .int (nI (bwN ps (rdB tx len cur).1.isSome))])), (p1, .inl (tyI D, 60, .inl (nf (bwF fs ps (((rdB tx len cur).1).map (fun t => t.1)))))), (p2, .inl (tyI D, 60, .inl (nf (bwF fa ps (((rdB tx len cur).1).map (fun t => t.2.1)))))), (p3, .inl (tyI D, 60, .inl (nf (bwF fk ps (((rdB tx len cur).1).map (fun t => t.2.2))))))]) 0 0 := by
  refine CM_bool (own := RX6) (cc := cX6_readBowing) (maxL := 4) (L0 := [(0, .ref t0)]) (by decide) rfl rfl (Nat.le_of_ble_eq_true rfl) rfl (fun X O E => ?_)
  refine g_aload_n O dX6_readBowing_0 0 rfl rfl ?_
  refine g_callV (As := []) (wr := [(p0, .inr (4, [.int (nI 60), .ref p1, .ref p2, .ref p3, .int (nI ps)])), (p1, .inl (tyI D, 60, .inl (nf fs))), (p2, .inl (tyI D, 60, .inl (nf fa))), (p3, .inl (tyI D, 60, .inl (nf fk)))]) O (kX6_next l D z t0 t1 p0 len cur tx (by first | assumption | omega) (by first | assumption | omega)) gX6_readBowing_X6_next rfl rfl rfl 0 (by decide +kernel) (by decide) (by decide) (q0 := 0) rfl rfl rfl [0, 1] [2, 3, 4, 5] rfl (by decide) rfl (by decide) (by decide) rfl rfl (Nat.le_of_ble_eq_true rfl) dX6_readBowing_1 (fun r_1 w_2 hp => ?_)
  obtain ⟨rfl, rfl⟩ := hp
  refine g_eq (st' := [.int (orM (chO tx len cur))]) (ws' := [(p0, .inr (4, [.int (nI 60), .ref p1, .ref p2, .ref p3, .int (nI ps)])), (p1, .inl (tyI D, 60, .inl (nf fs))), (p2, .inl (tyI D, 60, .inl (nf fa))), (p3, .inl (tyI D, 60, .inl (nf fk))), (t0, .inr (6, [.ref t1, .int (nI len), .ref p0, .int (nI cur)])), (t1, .inl (tyC D, 60, .inl (nf tx)))]) rfl rfl rfl ?_
  refine g_callS (As := [.int (orM (chO tx len cur))]) (wr := [(p0, .inr (4, [.int (nI 60), .ref p1, .ref p2, .ref p3, .int (nI ps)])), (p1, .inl (tyI D, 60, .inl (nf fs))), (p2, .inl (tyI D, 60, .inl (nf fa))), (p3, .inl (tyI D, 60, .inl (nf fk))), (t0, .inr (6, [.ref t1, .int (nI len), .ref p0, .int (nI cur)])), (t1, .inl (tyC D, 60, .inl (nf tx)))]) O (kX6_sideOf l D z (chO tx len cur) (fun k hk => txB htx hk)) gX6_readBowing_X6_sideOf rfl rfl rfl 1 (by decide +kernel) (by decide) (by decide) [] [0, 1, 2, 3, 4, 5] rfl (by decide) rfl (by decide) (by decide) rfl rfl (Nat.le_of_ble_eq_true rfl) dX6_readBowing_4 (fun r_3 w_4 hp => ?_)
  obtain ⟨rfl, rfl⟩ := hp
  refine g_eq (st' := [.int (orM (sdO (chO tx len cur)))]) (ws' := [(p0, .inr (4, [.int (nI 60), .ref p1, .ref p2, .ref p3, .int (nI ps)])), (p1, .inl (tyI D, 60, .inl (nf fs))), (p2, .inl (tyI D, 60, .inl (nf fa))), (p3, .inl (tyI D, 60, .inl (nf fk))), (t0, .inr (6, [.ref t1, .int (nI len), .ref p0, .int (nI cur)])), (t1, .inl (tyC D, 60, .inl (nf tx)))]) rfl rfl rfl ?_
  cases hsd : sdO (chO tx len cur) with
  | none =>
    refine g_eq (st' := [.int (-1)]) rfl rfl rfl ?_
    have he : rdB tx len cur = (none, cur) := by simp only [rdB]; rw [hsd]
    refine g_istore_n (L' := [(0, .ref t0), (1, .int (-1))]) O dX6_readBowing_7 rfl (by decide) [1, 0] rfl ?_
    refine g_iload_n O dX6_readBowing_8 1 rfl rfl ?_
    refine g_if_ge (tgt := 14) O dX6_readBowing_9 (by decide) (fun c_5 => absurd c_5 (by decide)) (fun c_5 => ?_)
    refine g_iconst (x := (nI 0)) O dX6_readBowing_12 (by decide +kernel) ?_
    refine g_perm (ws' := [(t0, .inr (6, [.ref t1, .int (nI len), .ref p0, .int (nI cur)])), (t1, .inl (tyC D, 60, .inl (nf tx))), (p0, .inr (4, [.int (nI 60), .ref p1, .ref p2, .ref p3, .int (nI ps)])), (p1, .inl (tyI D, 60, .inl (nf fs))), (p2, .inl (tyI D, 60, .inl (nf fa))), (p3, .inl (tyI D, 60, .inl (nf fk)))]) [4, 5, 0, 1, 2, 3] rfl (by decide) ?_
    refine g_eq (st' := [.int (bB false)]) rfl rfl rfl ?_
    exact E 13 _ false _ dX6_readBowing_13 (by rw [he]; exact ⟨rfl, rfl⟩)
  | some sd =>
    refine g_eq (st' := [.int (nI sd)]) rfl rfl rfl ?_
    have hs4 := sdO_lt hsd
    refine g_istore_n (L' := [(0, .ref t0), (1, .int (nI sd))]) O dX6_readBowing_7 rfl (by decide) [1, 0] rfl ?_
    refine g_iload_n O dX6_readBowing_8 1 rfl rfl ?_
    refine g_if_geN (tgt := 14) O (by omega) dX6_readBowing_9 (by decide) ?_
    refine g_aload_n O dX6_readBowing_14 0 rfl rfl ?_
    refine g_dup O dX6_readBowing_15 rfl ?_
    refine g_get O hiX6_readBowing_X6 4 rfl rfl 3 (by decide) (by decide +kernel) rfl dX6_readBowing_16 ?_
    refine g_iconst (x := (nI 1)) O dX6_readBowing_19 (by decide +kernel) ?_
    refine g_iaddN O dX6_readBowing_20 ?_
    refine g_put (ws' := [(p0, .inr (4, [.int (nI 60), .ref p1, .ref p2, .ref p3, .int (nI ps)])), (p1, .inl (tyI D, 60, .inl (nf fs))), (p2, .inl (tyI D, 60, .inl (nf fa))), (p3, .inl (tyI D, 60, .inl (nf fk))), (t0, .inr (6, [.ref t1, .int (nI len), .ref p0, .int (nI (cur + 1))])), (t1, .inl (tyC D, 60, .inl (nf tx)))]) O hiX6_readBowing_X6 tyX6 tyX6_ok nmX6 4 rfl rfl 3 (by decide) (by decide +kernel) rfl (tyX6_ok 3 (by decide)) rfl rfl (Nat.le_of_ble_eq_true rfl) dX6_readBowing_21 rfl ?_
    refine g_aload_n O dX6_readBowing_24 0 rfl rfl ?_
    refine g_iconst (x := (nI 0)) O dX6_readBowing_25 (by decide +kernel) ?_
    refine g_bipush (x := (nI 11)) O dX6_readBowing_26 (by decide +kernel) ?_
    refine g_callV (As := [.int (nI 0), .int (nI 11)]) (wr := [(p0, .inr (4, [.int (nI 60), .ref p1, .ref p2, .ref p3, .int (nI ps)])), (p1, .inl (tyI D, 60, .inl (nf fs))), (p2, .inl (tyI D, 60, .inl (nf fa))), (p3, .inl (tyI D, 60, .inl (nf fk)))]) O (kX6_readNumber l D z t0 t1 p0 len (cur + 1) tx 0 11 (by first | assumption | omega) (by first | assumption | omega) (by first | assumption | omega) (by first | assumption | omega) (by first | assumption | omega) (by first | assumption | omega)) gX6_readBowing_X6_readNumber rfl rfl rfl 2 (by decide +kernel) (by decide) (by decide) (q0 := 0) rfl rfl rfl [4, 5] [0, 1, 2, 3] rfl (by decide) rfl (by decide) (by decide) rfl rfl (Nat.le_of_ble_eq_true rfl) dX6_readBowing_28 (fun r_7 w_8 hp => ?_)
    obtain ⟨rfl, rfl⟩ := hp
    refine g_eq (st' := [.int (orM (rdN tx len (cur + 1) 0 11).1)]) (ws' := [(p0, .inr (4, [.int (nI 60), .ref p1, .ref p2, .ref p3, .int (nI ps)])), (p1, .inl (tyI D, 60, .inl (nf fs))), (p2, .inl (tyI D, 60, .inl (nf fa))), (p3, .inl (tyI D, 60, .inl (nf fk))), (t0, .inr (6, [.ref t1, .int (nI len), .ref p0, .int (nI ((rdN tx len (cur + 1) 0 11).2))])), (t1, .inl (tyC D, 60, .inl (nf tx)))]) rfl rfl rfl ?_
    cases hal : (rdN tx len (cur + 1) 0 11).1 with
    | none =>
      refine g_eq (st' := [.int (-1)]) rfl rfl rfl ?_
      have he : rdB tx len cur = (none, (rdN tx len (cur + 1) 0 11).2) := by simp only [rdB]; rw [hsd]; dsimp only; rw [show rdN tx len (cur + 1) 0 11 = (none, (rdN tx len (cur + 1) 0 11).2) from Prod.ext hal rfl]
      refine g_istore_n (L' := [(0, .ref t0), (1, .int (nI sd)), (2, .int (-1))]) O dX6_readBowing_31 rfl (by decide) [1, 2, 0] rfl ?_
      refine g_iload_n O dX6_readBowing_32 2 rfl rfl ?_
      refine g_iconst (x := (-1)) O dX6_readBowing_33 (by decide +kernel) ?_
      refine g_icmp_ne (tgt := 39) O dX6_readBowing_34 (by decide) (fun c_9 => absurd c_9 (fun h => h rfl)) (fun c_9 => ?_)
      refine g_iconst (x := (nI 0)) O dX6_readBowing_37 (by decide +kernel) ?_
      refine g_perm (ws' := [(t0, .inr (6, [.ref t1, .int (nI len), .ref p0, .int (nI ((rdN tx len (cur + 1) 0 11).2))])), (t1, .inl (tyC D, 60, .inl (nf tx))), (p0, .inr (4, [.int (nI 60), .ref p1, .ref p2, .ref p3, .int (nI ps)])), (p1, .inl (tyI D, 60, .inl (nf fs))), (p2, .inl (tyI D, 60, .inl (nf fa))), (p3, .inl (tyI D, 60, .inl (nf fk)))]) [4, 5, 0, 1, 2, 3] rfl (by decide) ?_
      refine g_eq (st' := [.int (bB false)]) rfl rfl rfl ?_
      exact E 38 _ false _ dX6_readBowing_38 (by rw [he]; exact ⟨rfl, rfl⟩)
    | some al =>
      refine g_eq (st' := [.int (nI al)]) rfl rfl rfl ?_
      have hal2 := rdN_v (by omega) hal
      refine g_istore_n (L' := [(0, .ref t0), (1, .int (nI sd)), (2, .int (nI al))]) O dX6_readBowing_31 rfl (by decide) [1, 2, 0] rfl ?_
      refine g_iload_n O dX6_readBowing_32 2 rfl rfl ?_
      refine g_iconst (x := (-1)) O dX6_readBowing_33 (by decide +kernel) ?_
      refine g_icmp_ne (tgt := 39) O dX6_readBowing_34 (by decide) (fun c_10 => ?_) (fun c_10 => (by exact absurd ((orM_m1 (o := some al) (fun k hk => by cases hk; omega)).mp c_10) (by simp)))
      refine g_iconst (x := (nI 1)) O dX6_readBowing_39 (by decide +kernel) ?_
      refine g_istore_n (L' := [(0, .ref t0), (1, .int (nI sd)), (2, .int (nI al)), (3, .int (nI 1))]) O dX6_readBowing_40 rfl (by decide) [1, 2, 3, 0] rfl ?_
      refine g_aload_n O dX6_readBowing_41 0 rfl rfl ?_
      refine g_callV (As := []) (wr := [(p0, .inr (4, [.int (nI 60), .ref p1, .ref p2, .ref p3, .int (nI ps)])), (p1, .inl (tyI D, 60, .inl (nf fs))), (p2, .inl (tyI D, 60, .inl (nf fa))), (p3, .inl (tyI D, 60, .inl (nf fk)))]) O (kX6_next l D z t0 t1 p0 len ((rdN tx len (cur + 1) 0 11).2) tx (by first | assumption | omega | (have := (rdN_c (tx := tx) (len := len) (c := cur + 1) (lo := 0) (hi := 11)).2; omega)) (by first | assumption | omega | (have := (rdN_c (tx := tx) (len := len) (c := cur + 1) (lo := 0) (hi := 11)).2; omega))) gX6_readBowing_X6_next rfl rfl rfl 0 (by decide +kernel) (by decide) (by decide) (q0 := 0) rfl rfl rfl [4, 5] [0, 1, 2, 3] rfl (by decide) rfl (by decide) (by decide) rfl rfl (Nat.le_of_ble_eq_true rfl) dX6_readBowing_42 (fun r_11 w_12 hp => ?_)
      obtain ⟨rfl, rfl⟩ := hp
      refine g_eq (st' := [.int (orM (chO tx len ((rdN tx len (cur + 1) 0 11).2)))]) (ws' := [(p0, .inr (4, [.int (nI 60), .ref p1, .ref p2, .ref p3, .int (nI ps)])), (p1, .inl (tyI D, 60, .inl (nf fs))), (p2, .inl (tyI D, 60, .inl (nf fa))), (p3, .inl (tyI D, 60, .inl (nf fk))), (t0, .inr (6, [.ref t1, .int (nI len), .ref p0, .int (nI ((rdN tx len (cur + 1) 0 11).2))])), (t1, .inl (tyC D, 60, .inl (nf tx)))]) rfl rfl rfl ?_
      have hR1 : (rdN tx len (cur + 1) 0 11) = (some al, (rdN tx len (cur + 1) 0 11).2) := Prod.ext hal rfl
      generalize (rdN tx len (cur + 1) 0 11).2 = c1 at *
      by_cases hx : chO tx len c1 = some 120
      ·
        refine g_eq (st' := [.int (nI 120)]) (by rw [hx]; rfl) rfl rfl ?_
        refine g_bipush (x := (nI 120)) O dX6_readBowing_45 (by decide +kernel) ?_
        refine g_icmp_neN (tgt := 68) O (by omega) (by omega) dX6_readBowing_47 (by decide) (fun c_13 => absurd c_13 (by decide)) (fun c_13 => ?_)
        refine g_aload_n O dX6_readBowing_50 0 rfl rfl ?_
        refine g_dup O dX6_readBowing_51 rfl ?_
        refine g_get O hiX6_readBowing_X6 4 rfl rfl 3 (by decide) (by decide +kernel) rfl dX6_readBowing_52 ?_
        refine g_iconst (x := (nI 1)) O dX6_readBowing_55 (by decide +kernel) ?_
        refine g_iaddN O dX6_readBowing_56 ?_
        refine g_put (ws' := [(p0, .inr (4, [.int (nI 60), .ref p1, .ref p2, .ref p3, .int (nI ps)])), (p1, .inl (tyI D, 60, .inl (nf fs))), (p2, .inl (tyI D, 60, .inl (nf fa))), (p3, .inl (tyI D, 60, .inl (nf fk))), (t0, .inr (6, [.ref t1, .int (nI len), .ref p0, .int (nI ((c1) + 1))])), (t1, .inl (tyC D, 60, .inl (nf tx)))]) O hiX6_readBowing_X6 tyX6 tyX6_ok nmX6 4 rfl rfl 3 (by decide) (by decide +kernel) rfl (tyX6_ok 3 (by decide)) rfl rfl (Nat.le_of_ble_eq_true rfl) dX6_readBowing_57 rfl ?_
        refine g_aload_n O dX6_readBowing_60 0 rfl rfl ?_
        refine g_iconst (x := (nI 1)) O dX6_readBowing_61 (by decide +kernel) ?_
        refine g_bipush (x := (nI 20)) O dX6_readBowing_62 (by decide +kernel) ?_
        refine g_callV (As := [.int (nI 1), .int (nI 20)]) (wr := [(p0, .inr (4, [.int (nI 60), .ref p1, .ref p2, .ref p3, .int (nI ps)])), (p1, .inl (tyI D, 60, .inl (nf fs))), (p2, .inl (tyI D, 60, .inl (nf fa))), (p3, .inl (tyI D, 60, .inl (nf fk)))]) O (kX6_readNumber l D z t0 t1 p0 len ((c1) + 1) tx 1 20 (by first | assumption | omega) (by first | assumption | omega) (by first | assumption | omega) (by first | assumption | omega) (by first | assumption | omega) (by first | assumption | omega)) gX6_readBowing_X6_readNumber rfl rfl rfl 2 (by decide +kernel) (by decide) (by decide) (q0 := 0) rfl rfl rfl [4, 5] [0, 1, 2, 3] rfl (by decide) rfl (by decide) (by decide) rfl rfl (Nat.le_of_ble_eq_true rfl) dX6_readBowing_64 (fun r_14 w_15 hp => ?_)
        obtain ⟨rfl, rfl⟩ := hp
        refine g_eq (st' := [.int (orM (rdN tx len ((c1) + 1) 1 20).1)]) (ws' := [(p0, .inr (4, [.int (nI 60), .ref p1, .ref p2, .ref p3, .int (nI ps)])), (p1, .inl (tyI D, 60, .inl (nf fs))), (p2, .inl (tyI D, 60, .inl (nf fa))), (p3, .inl (tyI D, 60, .inl (nf fk))), (t0, .inr (6, [.ref t1, .int (nI len), .ref p0, .int (nI ((rdN tx len ((c1) + 1) 1 20).2))])), (t1, .inl (tyC D, 60, .inl (nf tx)))]) rfl rfl rfl ?_
        cases hk : (rdN tx len (c1 + 1) 1 20).1 with
        | none =>
          refine g_eq (st' := [.int (-1)]) rfl rfl rfl ?_
          have he : rdB tx len cur = (none, (rdN tx len (c1 + 1) 1 20).2) := by simp only [rdB]; rw [hsd]; dsimp only; rw [hR1]; dsimp only; rw [if_pos hx, show rdN tx len (c1 + 1) 1 20 = (none, (rdN tx len (c1 + 1) 1 20).2) from Prod.ext hk rfl]
          refine g_istore_n (L' := [(0, .ref t0), (1, .int (nI sd)), (2, .int (nI al)), (3, .int (-1))]) O dX6_readBowing_67 rfl (by decide) [1, 2, 3, 0] rfl ?_
          refine g_iload_n O dX6_readBowing_68 3 rfl rfl ?_
          refine g_iconst (x := (-1)) O dX6_readBowing_69 (by decide +kernel) ?_
          refine g_icmp_ne (tgt := 75) O dX6_readBowing_70 (by decide) (fun c_16 => absurd c_16 (fun h => h rfl)) (fun c_16 => ?_)
          refine g_iconst (x := (nI 0)) O dX6_readBowing_73 (by decide +kernel) ?_
          refine g_perm (ws' := [(t0, .inr (6, [.ref t1, .int (nI len), .ref p0, .int (nI ((rdN tx len ((c1) + 1) 1 20).2))])), (t1, .inl (tyC D, 60, .inl (nf tx))), (p0, .inr (4, [.int (nI 60), .ref p1, .ref p2, .ref p3, .int (nI ps)])), (p1, .inl (tyI D, 60, .inl (nf fs))), (p2, .inl (tyI D, 60, .inl (nf fa))), (p3, .inl (tyI D, 60, .inl (nf fk)))]) [4, 5, 0, 1, 2, 3] rfl (by decide) ?_
          refine g_eq (st' := [.int (bB false)]) rfl rfl rfl ?_
          exact E 74 _ false _ dX6_readBowing_74 (by rw [he]; exact ⟨rfl, rfl⟩)
        | some k =>
          refine g_eq (st' := [.int (nI k)]) rfl rfl rfl ?_
          have hk2 := rdN_v (by omega) hk
          have he : rdB tx len cur = (some (sd, al, k), (rdN tx len (c1 + 1) 1 20).2) := by simp only [rdB]; rw [hsd]; dsimp only; rw [hR1]; dsimp only; rw [if_pos hx, show rdN tx len (c1 + 1) 1 20 = (some k, (rdN tx len (c1 + 1) 1 20).2) from Prod.ext hk rfl]
          refine g_istore_n (L' := [(0, .ref t0), (1, .int (nI sd)), (2, .int (nI al)), (3, .int (nI k))]) O dX6_readBowing_67 rfl (by decide) [1, 2, 3, 0] rfl ?_
          refine g_iload_n O dX6_readBowing_68 3 rfl rfl ?_
          refine g_iconst (x := (-1)) O dX6_readBowing_69 (by decide +kernel) ?_
          refine g_icmp_ne (tgt := 75) O dX6_readBowing_70 (by decide) (fun c_17 => ?_) (fun c_17 => (by exact absurd ((orM_m1 (o := some k) (fun k hk => by cases hk; omega)).mp c_17) (by simp)))
          refine g_aload_n O dX6_readBowing_75 0 rfl rfl ?_
          refine g_get O hiX6_readBowing_X6 4 rfl rfl 2 (by decide) (by decide +kernel) rfl dX6_readBowing_76 ?_
          refine g_iload_n O dX6_readBowing_79 1 rfl rfl ?_
          refine g_iload_n O dX6_readBowing_80 2 rfl rfl ?_
          refine g_iload_n O dX6_readBowing_81 3 rfl rfl ?_
          refine g_callV (As := [.int (nI sd), .int (nI al), .int (nI k)]) (wr := [(t0, .inr (6, [.ref t1, .int (nI len), .ref p0, .int (nI ((rdN tx len ((c1) + 1) 1 20).2))])), (t1, .inl (tyC D, 60, .inl (nf tx)))]) O (kX4_append l D z p0 p1 p2 p3 60 ps sd al k fs fa fk (by first | assumption | omega) (by first | assumption | omega)) gX6_readBowing_X4_append rfl rfl rfl 3 (by decide +kernel) (by decide) (by decide) (q0 := 0) rfl rfl rfl [0, 1, 2, 3] [4, 5] rfl (by decide) rfl (by decide) (by decide) rfl rfl (Nat.le_of_ble_eq_true rfl) dX6_readBowing_82 (fun r_18 w_19 hp => ?_)
          obtain ⟨rfl, rfl⟩ := hp
          refine g_eq (st' := []) (ws' := [(t0, .inr (6, [.ref t1, .int (nI len), .ref p0, .int (nI ((rdN tx len ((c1) + 1) 1 20).2))])), (t1, .inl (tyC D, 60, .inl (nf tx))), (p0, .inr (4, [.int (nI 60), .ref p1, .ref p2, .ref p3, .int (nI (ps + 1))])), (p1, .inl (tyI D, 60, .inl (nf (upf fs ps sd)))), (p2, .inl (tyI D, 60, .inl (nf (upf fa ps al)))), (p3, .inl (tyI D, 60, .inl (nf (upf fk ps k))))]) rfl rfl rfl ?_
          refine g_iconst (x := (nI 1)) O dX6_readBowing_85 (by decide +kernel) ?_
          refine g_eq (st' := [.int (bB true)]) rfl rfl rfl ?_
          exact E 86 _ true _ dX6_readBowing_86 (by rw [he]; exact ⟨rfl, rfl⟩)
      ·
        have he : rdB tx len cur = (some (sd, al, 1), c1) := by simp only [rdB]; rw [hsd]; dsimp only; rw [hR1]; dsimp only; rw [if_neg hx]
        refine g_bipush (x := (nI 120)) O dX6_readBowing_45 (by decide +kernel) ?_
        refine g_icmp_ne (tgt := 68) O dX6_readBowing_47 (by decide) (fun c_20 => ?_) (fun c_20 => (by exact absurd ((orM_eq (fun k hk => Nat.lt_trans (txB htx hk) (by decide)) (by decide)).mp c_20) hx))
        refine g_iload_n O dX6_readBowing_68 3 rfl rfl ?_
        refine g_iconst (x := (-1)) O dX6_readBowing_69 (by decide +kernel) ?_
        refine g_icmp_ne (tgt := 75) O dX6_readBowing_70 (by decide) (fun c_21 => ?_) (fun c_21 => (by exact absurd c_21 (by decide +kernel)))
        refine g_aload_n O dX6_readBowing_75 0 rfl rfl ?_
        refine g_get O hiX6_readBowing_X6 4 rfl rfl 2 (by decide) (by decide +kernel) rfl dX6_readBowing_76 ?_
        refine g_iload_n O dX6_readBowing_79 1 rfl rfl ?_
        refine g_iload_n O dX6_readBowing_80 2 rfl rfl ?_
        refine g_iload_n O dX6_readBowing_81 3 rfl rfl ?_
        refine g_callV (As := [.int (nI sd), .int (nI al), .int (nI 1)]) (wr := [(t0, .inr (6, [.ref t1, .int (nI len), .ref p0, .int (nI (c1))])), (t1, .inl (tyC D, 60, .inl (nf tx)))]) O (kX4_append l D z p0 p1 p2 p3 60 ps sd al 1 fs fa fk (by first | assumption | omega) (by first | assumption | omega)) gX6_readBowing_X4_append rfl rfl rfl 3 (by decide +kernel) (by decide) (by decide) (q0 := 0) rfl rfl rfl [0, 1, 2, 3] [4, 5] rfl (by decide) rfl (by decide) (by decide) rfl rfl (Nat.le_of_ble_eq_true rfl) dX6_readBowing_82 (fun r_22 w_23 hp => ?_)
        obtain ⟨rfl, rfl⟩ := hp
        refine g_eq (st' := []) (ws' := [(t0, .inr (6, [.ref t1, .int (nI len), .ref p0, .int (nI (c1))])), (t1, .inl (tyC D, 60, .inl (nf tx))), (p0, .inr (4, [.int (nI 60), .ref p1, .ref p2, .ref p3, .int (nI (ps + 1))])), (p1, .inl (tyI D, 60, .inl (nf (upf fs ps sd)))), (p2, .inl (tyI D, 60, .inl (nf (upf fa ps al)))), (p3, .inl (tyI D, 60, .inl (nf (upf fk ps 1))))]) rfl rfl rfl ?_
        refine g_iconst (x := (nI 1)) O dX6_readBowing_85 (by decide +kernel) ?_
        refine g_eq (st' := [.int (bB true)]) rfl rfl rfl ?_
        exact E 86 _ true _ dX6_readBowing_86 (by rw [he]; exact ⟨rfl, rfl⟩)

theorem hiX6_read_X4 : ∀ w ∈ wsX40, w ∈ wsX6_read := by decide +kernel
theorem hiX6_read_X6 : ∀ w ∈ wsX60, w ∈ wsX6_read := by decide +kernel
set_option maxHeartbeats 2000000 in
set_option maxRecDepth 100000 in
/-- the text is read -/
theorem kX6_read (l : Launch) (D : va_G) (z : Nat × Nat × Nat) (t0 : Nat) (t1 : Nat) (p0 : Nat) (p1 : Nat) (p2 : Nat) (p3 : Nat) (len : Nat) (cur : Nat) (tx : Nat → Nat) (fs : Nat → Nat) (fa : Nat → Nat) (fk : Nat → Nat) (ps : Nat) (hl : len ≤ 60) (htx : ∀ j, j < len → tx j < 65536) : CM l yX6_read wsX6_read ({ frames := 3, cells := 0, slots := 0, locals := 69 } : Room) D z [.ref t0] [(t0, .inr (6, [.ref t1, .int (nI len), .ref p0, .int (nI cur)])), (t1, .inl (tyC D, 60, .inl (nf tx))), (p0, .inr (4, [.int (nI 60), .ref p1, .ref p2, .ref p3, .int (nI ps)])), (p1, .inl (tyI D, 60, .inl (nf fs))), (p2, .inl (tyI D, 60, .inl (nf fa))), (p3, .inl (tyI D, 60, .inl (nf fk)))] (fun r_ w_ => r_ = some (.int (bB ((rdP tx len 60 0 fs fa fk 0).1))) ∧ w_ = [(t0, .inr (6, [.ref t1, .int (nI len), .ref p0, .int (nI ((rdP tx len 60 0 fs fa fk 0).2.1))])), (t1, .inl (tyC D, 60, .inl (nf tx))), (p0, .inr (4, [.int (nI 60), .ref p1, .ref p2, .ref p3, .int (nI ((rdP tx len 60 0 fs fa fk 0).2.2.2.2.2))])), (p1, .inl (tyI D, 60, .inl (nf ((rdP tx len 60 0 fs fa fk 0).2.2.1)))), (p2, .inl (tyI D, 60, .inl (nf ((rdP tx len 60 0 fs fa fk 0).2.2.2.1)))), (p3, .inl (tyI D, 60, .inl (nf ((rdP tx len 60 0 fs fa fk 0).2.2.2.2.1))))]) 0 0 := by
  refine CM_bool (own := RX6) (cc := cX6_read) (maxL := 2) (L0 := [(0, .ref t0)]) (by decide) rfl rfl (Nat.le_of_ble_eq_true rfl) rfl (fun X O E => ?_)
  refine g_aload_n O dX6_read_0 0 rfl rfl ?_
  refine g_iconst (x := (nI 0)) O dX6_read_1 (by decide +kernel) ?_
  refine g_put (ws' := [(t0, .inr (6, [.ref t1, .int (nI len), .ref p0, .int (nI 0)])), (t1, .inl (tyC D, 60, .inl (nf tx))), (p0, .inr (4, [.int (nI 60), .ref p1, .ref p2, .ref p3, .int (nI ps)])), (p1, .inl (tyI D, 60, .inl (nf fs))), (p2, .inl (tyI D, 60, .inl (nf fa))), (p3, .inl (tyI D, 60, .inl (nf fk)))]) O hiX6_read_X6 tyX6 tyX6_ok nmX6 0 rfl rfl 3 (by decide) (by decide +kernel) rfl (tyX6_ok 3 (by decide)) rfl rfl (Nat.le_of_ble_eq_true rfl) dX6_read_2 rfl ?_
  refine g_aload_n O dX6_read_5 0 rfl rfl ?_
  refine g_get O hiX6_read_X6 0 rfl rfl 2 (by decide) (by decide +kernel) rfl dX6_read_6 ?_
  refine g_iconst (x := (nI 0)) O dX6_read_9 (by decide +kernel) ?_
  refine g_putN (ws' := [(t0, .inr (6, [.ref t1, .int (nI len), .ref p0, .int (nI 0)])), (t1, .inl (tyC D, 60, .inl (nf tx))), (p0, .inr (4, [.int (nI 60), .ref p1, .ref p2, .ref p3, .int (nI 0)])), (p1, .inl (tyI D, 60, .inl (nf fs))), (p2, .inl (tyI D, 60, .inl (nf fa))), (p3, .inl (tyI D, 60, .inl (nf fk)))]) O hiX6_read_X4 tyX4 tyX4_ok nmX4 2 rfl rfl 4 (by decide) 6 rfl rfl (tyX4_ok 4 (by decide)) rfl rfl (Nat.le_of_ble_eq_true rfl) dX6_read_10 rfl ?_
  refine g_iconst (x := (nI 0)) O dX6_read_13 (by decide +kernel) ?_
  refine g_istore_n (L' := [(0, .ref t0), (1, .int (nI 0))]) O dX6_read_14 rfl (by decide) [1, 0] rfl ?_
  have J15 : ∀ (n_ : Nat), ∀ (i_ : Nat) (c_ : Nat) (Fs : Nat → Nat) (Fa : Nat → Nat) (Fk : Nat → Nat) (hi_ : i_ ≤ 60) (hcc : c_ ≤ 61) (hR : rdP tx len (60 - i_) c_ Fs Fa Fk i_ = rdP tx len 60 0 fs fa fk 0), 60 - i_ < n_ → G X 0 0 15 [(0, .ref t0), (1, .int (nI i_))] [] [(t0, .inr (6, [.ref t1, .int (nI len), .ref p0, .int (nI c_)])), (t1, .inl (tyC D, 60, .inl (nf tx))), (p0, .inr (4, [.int (nI 60), .ref p1, .ref p2, .ref p3, .int (nI i_)])), (p1, .inl (tyI D, 60, .inl (nf Fs))), (p2, .inl (tyI D, 60, .inl (nf Fa))), (p3, .inl (tyI D, 60, .inl (nf Fk)))] := by
    intro n_
    induction n_ with
    | zero => intro i_ c_ Fs Fa Fk hi_ hcc hR hm_; exact absurd hm_ (Nat.not_lt_zero _)
    | succ n_ ih_ =>
      intro i_ c_ Fs Fa Fk hi_ hcc hR hm_
      refine g_iload_n O dX6_read_15 1 rfl rfl ?_
      refine g_bipush (x := (nI 60)) O dX6_read_16 (by decide +kernel) ?_
      refine g_icmp_geN (tgt := 67) O (by omega) (by omega) dX6_read_18 (by decide) (fun c_1 => ?_) (fun c_1 => ?_)
      ·
        obtain rfl : i_ = 60 := by omega
        have he : rdP tx len (60 - 60) c_ Fs Fa Fk 60 = (false, c_, Fs, Fa, Fk, 60) := rfl
        refine g_iconst (x := (nI 0)) O dX6_read_67 (by decide +kernel) ?_
        refine g_eq (st' := [.int (bB false)]) rfl rfl rfl ?_
        exact E 68 _ false _ dX6_read_68 (by rw [← hR, he]; exact ⟨rfl, rfl⟩)
      ·
        refine g_aload_n O dX6_read_21 0 rfl rfl ?_
        refine g_callV (As := []) (wr := []) O (kX6_readBowing l D z t0 t1 p0 p1 p2 p3 len c_ tx Fs Fa Fk i_ (by first | assumption | omega) (by first | assumption | omega) (by first | assumption | omega) (by first | assumption | omega)) gX6_read_X6_readBowing rfl rfl rfl 0 (by decide +kernel) (by decide) (by decide) (q0 := 0) rfl rfl rfl [0, 1, 2, 3, 4, 5] [] rfl (by decide) rfl (by decide) (by decide) rfl rfl (Nat.le_of_ble_eq_true rfl) dX6_read_22 (fun r_2 w_3 hp => ?_)
        obtain ⟨rfl, rfl⟩ := hp
        refine g_eq (st' := [.int (bB ((rdB tx len c_).1.isSome))]) (ws' := [(t0, .inr (6, [.ref t1, .int (nI len), .ref p0, .int (nI ((rdB tx len c_).2))])), (t1, .inl (tyC D, 60, .inl (nf tx))), (p0, .inr (4, [.int (nI 60), .ref p1, .ref p2, .ref p3, .int (nI (bwN i_ (rdB tx len c_).1.isSome))])), (p1, .inl (tyI D, 60, .inl (nf (bwF Fs i_ (((rdB tx len c_).1).map (fun t => t.1)))))), (p2, .inl (tyI D, 60, .inl (nf (bwF Fa i_ (((rdB tx len c_).1).map (fun t => t.2.1)))))), (p3, .inl (tyI D, 60, .inl (nf (bwF Fk i_ (((rdB tx len c_).1).map (fun t => t.2.2))))))]) rfl rfl rfl ?_
        cases hb : (rdB tx len c_) with
        | mk o_ d_ =>
          cases o_ with
          | none =>
            have he : rdP tx len (60 - i_) c_ Fs Fa Fk i_ = (false, d_, Fs, Fa, Fk, i_) := by rw [show 60 - i_ = (59 - i_) + 1 by omega]; simp only [rdP]; rw [hb]
            refine g_eq (st' := [.int (bB false)]) (ws' := [(t0, .inr (6, [.ref t1, .int (nI len), .ref p0, .int (nI d_)])), (t1, .inl (tyC D, 60, .inl (nf tx))), (p0, .inr (4, [.int (nI 60), .ref p1, .ref p2, .ref p3, .int (nI i_)])), (p1, .inl (tyI D, 60, .inl (nf Fs))), (p2, .inl (tyI D, 60, .inl (nf Fa))), (p3, .inl (tyI D, 60, .inl (nf Fk)))]) rfl rfl rfl ?_
            refine g_if_neB (tgt := 30) O dX6_read_25 (by decide) (fun c_4 => absurd c_4 (by decide)) (fun c_4 => ?_)
            refine g_iconst (x := (nI 0)) O dX6_read_28 (by decide +kernel) ?_
            refine g_eq (st' := [.int (bB false)]) rfl rfl rfl ?_
            exact E 29 _ false _ dX6_read_29 (by rw [← hR, he]; exact ⟨rfl, rfl⟩)
          | some t_ =>
            obtain ⟨sd, al, k⟩ := t_
            have hbs := rdB_s hb
            refine g_eq (st' := [.int (bB true)]) (ws' := [(t0, .inr (6, [.ref t1, .int (nI len), .ref p0, .int (nI d_)])), (t1, .inl (tyC D, 60, .inl (nf tx))), (p0, .inr (4, [.int (nI 60), .ref p1, .ref p2, .ref p3, .int (nI (i_ + 1))])), (p1, .inl (tyI D, 60, .inl (nf (upf Fs i_ sd)))), (p2, .inl (tyI D, 60, .inl (nf (upf Fa i_ al)))), (p3, .inl (tyI D, 60, .inl (nf (upf Fk i_ k))))]) rfl rfl rfl ?_
            refine g_if_neB (tgt := 30) O dX6_read_25 (by decide) (fun c_5 => ?_) (fun c_5 => absurd c_5 (by decide))
            refine g_aload_n O dX6_read_30 0 rfl rfl ?_
            refine g_callV (As := []) (wr := [(p0, .inr (4, [.int (nI 60), .ref p1, .ref p2, .ref p3, .int (nI (i_ + 1))])), (p1, .inl (tyI D, 60, .inl (nf (upf Fs i_ sd)))), (p2, .inl (tyI D, 60, .inl (nf (upf Fa i_ al)))), (p3, .inl (tyI D, 60, .inl (nf (upf Fk i_ k))))]) O (kX6_next l D z t0 t1 p0 len d_ tx (by first | assumption | omega) (by first | assumption | omega)) gX6_read_X6_next rfl rfl rfl 0 (by decide +kernel) (by decide) (by decide) (q0 := 0) rfl rfl rfl [0, 1] [2, 3, 4, 5] rfl (by decide) rfl (by decide) (by decide) rfl rfl (Nat.le_of_ble_eq_true rfl) dX6_read_31 (fun r_6 w_7 hp => ?_)
            obtain ⟨rfl, rfl⟩ := hp
            refine g_eq (st' := [.int (orM (chO tx len d_))]) (ws' := [(p0, .inr (4, [.int (nI 60), .ref p1, .ref p2, .ref p3, .int (nI (i_ + 1))])), (p1, .inl (tyI D, 60, .inl (nf (upf Fs i_ sd)))), (p2, .inl (tyI D, 60, .inl (nf (upf Fa i_ al)))), (p3, .inl (tyI D, 60, .inl (nf (upf Fk i_ k)))), (t0, .inr (6, [.ref t1, .int (nI len), .ref p0, .int (nI d_)])), (t1, .inl (tyC D, 60, .inl (nf tx)))]) rfl rfl rfl ?_
            cases hch : chO tx len d_ with
            | none =>
              refine g_eq (st' := [.int (-1)]) rfl rfl rfl ?_
              have he : rdP tx len (60 - i_) c_ Fs Fa Fk i_ = (true, d_, (upf Fs i_ sd), (upf Fa i_ al), (upf Fk i_ k), (i_ + 1)) := by rw [show 60 - i_ = (59 - i_) + 1 by omega]; simp only [rdP]; rw [hb]; dsimp only; rw [hch]
              refine g_iconst (x := (-1)) O dX6_read_34 (by decide +kernel) ?_
              refine g_icmp_ne (tgt := 40) O dX6_read_35 (by decide) (fun c_8 => absurd c_8 (fun h => h rfl)) (fun c_8 => ?_)
              refine g_iconst (x := (nI 1)) O dX6_read_38 (by decide +kernel) ?_
              refine g_perm (ws' := [(t0, .inr (6, [.ref t1, .int (nI len), .ref p0, .int (nI d_)])), (t1, .inl (tyC D, 60, .inl (nf tx))), (p0, .inr (4, [.int (nI 60), .ref p1, .ref p2, .ref p3, .int (nI (i_ + 1))])), (p1, .inl (tyI D, 60, .inl (nf (upf Fs i_ sd)))), (p2, .inl (tyI D, 60, .inl (nf (upf Fa i_ al)))), (p3, .inl (tyI D, 60, .inl (nf (upf Fk i_ k))))]) [4, 5, 0, 1, 2, 3] rfl (by decide) ?_
              refine g_eq (st' := [.int (bB true)]) rfl rfl rfl ?_
              exact E 39 _ true _ dX6_read_39 (by rw [← hR, he]; exact ⟨rfl, rfl⟩)
            | some x_ =>
              have hxx := txB htx hch
              refine g_eq (st' := [.int (nI x_)]) rfl rfl rfl ?_
              refine g_iconst (x := (-1)) O dX6_read_34 (by decide +kernel) ?_
              refine g_icmp_ne (tgt := 40) O dX6_read_35 (by decide) (fun c_9 => ?_) (fun c_9 => (by exact absurd ((orM_m1 (o := some x_) (fun k hk => by cases hk; omega)).mp c_9) (by simp)))
              refine g_aload_n O dX6_read_40 0 rfl rfl ?_
              refine g_callV (As := []) (wr := [(p0, .inr (4, [.int (nI 60), .ref p1, .ref p2, .ref p3, .int (nI (i_ + 1))])), (p1, .inl (tyI D, 60, .inl (nf (upf Fs i_ sd)))), (p2, .inl (tyI D, 60, .inl (nf (upf Fa i_ al)))), (p3, .inl (tyI D, 60, .inl (nf (upf Fk i_ k))))]) O (kX6_next l D z t0 t1 p0 len d_ tx (by first | assumption | omega) (by first | assumption | omega)) gX6_read_X6_next rfl rfl rfl 0 (by decide +kernel) (by decide) (by decide) (q0 := 0) rfl rfl rfl [4, 5] [0, 1, 2, 3] rfl (by decide) rfl (by decide) (by decide) rfl rfl (Nat.le_of_ble_eq_true rfl) dX6_read_41 (fun r_10 w_11 hp => ?_)
              obtain ⟨rfl, rfl⟩ := hp
              refine g_eq (st' := [.int (orM (chO tx len d_))]) (ws' := [(p0, .inr (4, [.int (nI 60), .ref p1, .ref p2, .ref p3, .int (nI (i_ + 1))])), (p1, .inl (tyI D, 60, .inl (nf (upf Fs i_ sd)))), (p2, .inl (tyI D, 60, .inl (nf (upf Fa i_ al)))), (p3, .inl (tyI D, 60, .inl (nf (upf Fk i_ k)))), (t0, .inr (6, [.ref t1, .int (nI len), .ref p0, .int (nI d_)])), (t1, .inl (tyC D, 60, .inl (nf tx)))]) rfl rfl rfl ?_
              refine g_eq (st' := [.int (nI x_)]) (by rw [hch]; rfl) rfl rfl ?_
              refine g_bipush (x := (nI 44)) O dX6_read_44 (by decide +kernel) ?_
              refine g_icmp_eqN (tgt := 51) O (by omega) (by omega) dX6_read_46 (by decide) (fun c_12 => ?_) (fun c_12 => ?_)
              ·
                refine g_aload_n O dX6_read_51 0 rfl rfl ?_
                refine g_dup O dX6_read_52 rfl ?_
                refine g_get O hiX6_read_X6 4 rfl rfl 3 (by decide) (by decide +kernel) rfl dX6_read_53 ?_
                refine g_iconst (x := (nI 1)) O dX6_read_56 (by decide +kernel) ?_
                refine g_iaddN O dX6_read_57 ?_
                refine g_put (ws' := [(p0, .inr (4, [.int (nI 60), .ref p1, .ref p2, .ref p3, .int (nI (i_ + 1))])), (p1, .inl (tyI D, 60, .inl (nf (upf Fs i_ sd)))), (p2, .inl (tyI D, 60, .inl (nf (upf Fa i_ al)))), (p3, .inl (tyI D, 60, .inl (nf (upf Fk i_ k)))), (t0, .inr (6, [.ref t1, .int (nI len), .ref p0, .int (nI (d_ + 1))])), (t1, .inl (tyC D, 60, .inl (nf tx)))]) O hiX6_read_X6 tyX6 tyX6_ok nmX6 4 rfl rfl 3 (by decide) (by decide +kernel) rfl (tyX6_ok 3 (by decide)) rfl rfl (Nat.le_of_ble_eq_true rfl) dX6_read_58 rfl ?_
                refine g_iincN (L' := [(0, .ref t0), (1, .int (nI (i_ + 1)))]) O dX6_read_61 1 rfl (by decide) [1, 0] rfl ?_
                refine g_goto (tgt := 15) O dX6_read_64 (by decide) ?_
                refine g_perm (ws' := [(t0, .inr (6, [.ref t1, .int (nI len), .ref p0, .int (nI (d_ + 1))])), (t1, .inl (tyC D, 60, .inl (nf tx))), (p0, .inr (4, [.int (nI 60), .ref p1, .ref p2, .ref p3, .int (nI (i_ + 1))])), (p1, .inl (tyI D, 60, .inl (nf (upf Fs i_ sd)))), (p2, .inl (tyI D, 60, .inl (nf (upf Fa i_ al)))), (p3, .inl (tyI D, 60, .inl (nf (upf Fk i_ k))))]) [4, 5, 0, 1, 2, 3] rfl (by decide) ?_
                exact ih_ (i_ + 1) _ _ _ _ (by first | assumption | omega | rfl) (by first | assumption | omega | rfl) (by rw [← hR, show 60 - i_ = (60 - (i_ + 1)) + 1 by omega]; simp only [rdP]; rw [hb]; dsimp only; rw [hch]; dsimp only; rw [if_pos (by assumption)]) (by omega)
              ·
                have he : rdP tx len (60 - i_) c_ Fs Fa Fk i_ = (false, d_, (upf Fs i_ sd), (upf Fa i_ al), (upf Fk i_ k), (i_ + 1)) := by rw [show 60 - i_ = (59 - i_) + 1 by omega]; simp only [rdP]; rw [hb]; dsimp only; rw [hch]; dsimp only; rw [if_neg c_12]
                refine g_iconst (x := (nI 0)) O dX6_read_49 (by decide +kernel) ?_
                refine g_perm (ws' := [(t0, .inr (6, [.ref t1, .int (nI len), .ref p0, .int (nI d_)])), (t1, .inl (tyC D, 60, .inl (nf tx))), (p0, .inr (4, [.int (nI 60), .ref p1, .ref p2, .ref p3, .int (nI (i_ + 1))])), (p1, .inl (tyI D, 60, .inl (nf (upf Fs i_ sd)))), (p2, .inl (tyI D, 60, .inl (nf (upf Fa i_ al)))), (p3, .inl (tyI D, 60, .inl (nf (upf Fk i_ k))))]) [4, 5, 0, 1, 2, 3] rfl (by decide) ?_
                refine g_eq (st' := [.int (bB false)]) rfl rfl rfl ?_
                exact E 50 _ false _ dX6_read_50 (by rw [← hR, he]; exact ⟨rfl, rfl⟩)
  exact J15 _ 0 0 _ _ _ (Nat.zero_le _) (Nat.zero_le _) (rfl) (Nat.lt_succ_self _)

theorem hiX6_init_X4 : ∀ w ∈ wsX40, w ∈ wsX6_init := by decide +kernel
theorem hiX6_init_X6 : ∀ w ∈ wsX60, w ∈ wsX6_init := by decide +kernel
set_option maxHeartbeats 2000000 in
set_option maxRecDepth 100000 in
/-- a new text -/
theorem kX6_init (l : Launch) (D : va_G) (z : Nat × Nat × Nat) (t0 : Nat)  : CM l yX6_init wsX6_init ({ frames := 2, cells := 5, slots := 245, locals := 42 } : Room) D z [.ref t0] [(t0, .inr (6, [.null, .int (nI 0), .null, .int (nI 0)]))] (fun r_ w_ => ∃ (q0 : Nat), ∃ (q1 : Nat), ∃ (q2 : Nat), ∃ (q3 : Nat), ∃ (q4 : Nat), r_ = none ∧ w_ = [(t0, .inr (6, [.ref q0, .int (nI 0), .ref q1, .int (nI 0)])), (q0, .inl (tyC D, 60, .inl (nf (fun _ => 0)))), (q1, .inr (4, [.int (nI 60), .ref q2, .ref q3, .ref q4, .int (nI 0)])), (q2, .inl (tyI D, 60, .inl (nf (fun _ => 0)))), (q3, .inl (tyI D, 60, .inl (nf (fun _ => 0)))), (q4, .inl (tyI D, 60, .inl (nf (fun _ => 0))))]) 5 245 := by
  refine CM_void (own := RX6) (cc := cX6_init) (maxL := 1) (L0 := [(0, .ref t0)]) (by decide) rfl rfl (Nat.le_of_ble_eq_true rfl) rfl (fun X O E => ?_)
  refine g_aload_n O dX6_init_0 0 rfl rfl ?_
  refine g_objInit O (by decide +kernel) (by decide +kernel) (by decide +kernel) (by decide) (Nat.le_of_ble_eq_true rfl) dX6_init_1 ?_
  refine g_aload_n O dX6_init_4 0 rfl rfl ?_
  refine g_bipush (x := (nI 60)) O dX6_init_5 (by decide +kernel) ?_
  refine g_newC (N := 60) O (by decide +kernel) (nI_pos (by decide)) (nI_clamp (by decide)) (by decide) (by decide) (by decide) dX6_init_7 (fun q_1 => ?_)
  refine g_eq (ws' := [(t0, .inr (6, [.null, .int (nI 0), .null, .int (nI 0)])), (q_1, .inl (tyC D, 60, .inl (fun _ => 0)))]) rfl rfl (by rfl) ?_
  refine g_putF (ws' := [(t0, .inr (6, [.ref q_1, .int (nI 0), .null, .int (nI 0)])), (q_1, .inl (tyC D, 60, .inl (fun _ => 0)))]) O hiX6_init_X6 tyX6 tyX6_ok nmX6 0 rfl rfl 0 (by decide) (by decide +kernel) rfl rfl rfl (tyX6_ok 0 (by decide)) rfl rfl (Nat.le_of_ble_eq_true rfl) dX6_init_9 rfl ?_
  refine g_aload_n O dX6_init_12 0 rfl rfl ?_
  refine g_iconst (x := (nI 0)) O dX6_init_13 (by decide +kernel) ?_
  refine g_put (ws' := [(t0, .inr (6, [.ref q_1, .int (nI 0), .null, .int (nI 0)])), (q_1, .inl (tyC D, 60, .inl (fun _ => 0)))]) O hiX6_init_X6 tyX6 tyX6_ok nmX6 0 rfl rfl 1 (by decide) (by decide +kernel) rfl (tyX6_ok 1 (by decide)) rfl rfl (Nat.le_of_ble_eq_true rfl) dX6_init_14 rfl ?_
  refine g_aload_n O dX6_init_17 0 rfl rfl ?_
  refine g_new (ci := 4) (fs := [.int 0, .null, .null, .null, .int 0]) O hiX6_init_X4 tyX4 tyX4_ok (by decide +kernel) (by decide +kernel) (by decide +kernel) rfl (fun j hj => by rcases (show j = 0 ∨ j = 1 ∨ j = 2 ∨ j = 3 ∨ j = 4 by omega) with rfl | rfl | rfl | rfl | rfl <;> rfl) (by decide) (by decide) dX6_init_18 (fun q_2 => ?_)
  refine g_eq (ws' := [(t0, .inr (6, [.ref q_1, .int (nI 0), .null, .int (nI 0)])), (q_1, .inl (tyC D, 60, .inl (fun _ => 0))), (q_2, .inr (4, [.int (nI 0), .null, .null, .null, .int (nI 0)]))]) rfl rfl rfl ?_
  refine g_dup O dX6_init_21 rfl ?_
  refine g_bipush (x := (nI 60)) O dX6_init_22 (by decide +kernel) ?_
  refine g_callI (As := [.int (nI 60)]) (wr := [(t0, .inr (6, [.ref q_1, .int (nI 0), .null, .int (nI 0)])), (q_1, .inl (tyC D, 60, .inl (fun _ => 0)))]) O (kX4_init60 l D z q_2 ) gX6_init_X4_init rfl rfl rfl 1 (by decide +kernel) (by decide) (by decide) (by decide +kernel) (by decide +kernel) (by decide +kernel) rfl [2] [0, 1] rfl (by decide) rfl (by decide) (by decide) rfl rfl (Nat.le_of_ble_eq_true rfl) dX6_init_24 (fun r_3 w_4 hp => ?_)
  obtain ⟨q0_5, q1_6, q2_7, rfl, rfl⟩ := hp
  refine g_eq (st' := [.ref q_2, .ref t0]) (ws' := [(t0, .inr (6, [.ref q_1, .int (nI 0), .null, .int (nI 0)])), (q_1, .inl (tyC D, 60, .inl (fun _ => 0))), (q_2, .inr (4, [.int (nI 60), .ref q0_5, .ref q1_6, .ref q2_7, .int (nI 0)])), (q0_5, .inl (tyI D, 60, .inl (nf (fun _ => 0)))), (q1_6, .inl (tyI D, 60, .inl (nf (fun _ => 0)))), (q2_7, .inl (tyI D, 60, .inl (nf (fun _ => 0))))]) rfl rfl rfl ?_
  refine g_putF (ws' := [(t0, .inr (6, [.ref q_1, .int (nI 0), .ref q_2, .int (nI 0)])), (q_1, .inl (tyC D, 60, .inl (fun _ => 0))), (q_2, .inr (4, [.int (nI 60), .ref q0_5, .ref q1_6, .ref q2_7, .int (nI 0)])), (q0_5, .inl (tyI D, 60, .inl (nf (fun _ => 0)))), (q1_6, .inl (tyI D, 60, .inl (nf (fun _ => 0)))), (q2_7, .inl (tyI D, 60, .inl (nf (fun _ => 0))))]) O hiX6_init_X6 tyX6 tyX6_ok nmX6 0 rfl rfl 2 (by decide) (by decide +kernel) rfl rfl rfl (tyX6_ok 2 (by decide)) rfl rfl (Nat.le_of_ble_eq_true rfl) dX6_init_27 rfl ?_
  refine g_aload_n O dX6_init_30 0 rfl rfl ?_
  refine g_iconst (x := (nI 0)) O dX6_init_31 (by decide +kernel) ?_
  refine g_put (ws' := [(t0, .inr (6, [.ref q_1, .int (nI 0), .ref q_2, .int (nI 0)])), (q_1, .inl (tyC D, 60, .inl (fun _ => 0))), (q_2, .inr (4, [.int (nI 60), .ref q0_5, .ref q1_6, .ref q2_7, .int (nI 0)])), (q0_5, .inl (tyI D, 60, .inl (nf (fun _ => 0)))), (q1_6, .inl (tyI D, 60, .inl (nf (fun _ => 0)))), (q2_7, .inl (tyI D, 60, .inl (nf (fun _ => 0))))]) O hiX6_init_X6 tyX6 tyX6_ok nmX6 0 rfl rfl 3 (by decide) (by decide +kernel) rfl (tyX6_ok 3 (by decide)) rfl rfl (Nat.le_of_ble_eq_true rfl) dX6_init_32 rfl ?_
  exact E 35 _ _ dX6_init_35 (⟨_, _, _, _, _, rfl, rfl⟩)
