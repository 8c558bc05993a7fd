theorem hiX5_coverWith_X5 : ∀ w ∈ wsX50, w ∈ wsX5_coverWith := by decide +kernel
set_option maxHeartbeats 2000000 in
set_option maxRecDepth 100000 in
/-- so many grains on each place -/
theorem kX5_coverWith (l : Launch) (D : va_G) (z : Nat × Nat × Nat) (h0 : Nat) (h1 : Nat) (h2 : Nat) (h3 : Nat) (h4 : Nat) (h5 : Nat) (nc : Nat) (la : Int32) (st : Int32) (sw : Int32) (fl : Int32) (sk : Int32) (mu : Int32) (g : Nat → Nat) (e : Nat)  : CM l yX5_coverWith wsX5_coverWith ({ frames := 0, cells := 0, slots := 0, locals := 0 } : Room) D z [.ref h0, .int (nI e)] [(h0, .inr (5, [.ref h1, .ref h2, .ref h3, .int (nI nc), .ref h4, .ref h5, .int la, .int st, .int sw, .int fl, .int sk, .int mu])), (h1, .inl (tyI D, 144, .inl (nf g)))] (fun r_ w_ => r_ = none ∧ w_ = [(h0, .inr (5, [.ref h1, .ref h2, .ref h3, .int (nI nc), .ref h4, .ref h5, .int la, .int st, .int sw, .int fl, .int sk, .int mu])), (h1, .inl (tyI D, 144, .inl (nf (cvf g e 144))))]) 0 0 := by
  refine CM_void (own := RX5) (cc := cX5_coverWith) (maxL := 3) (L0 := [(0, .ref h0), (1, .int (nI e))]) (by decide) rfl rfl (Nat.le_of_ble_eq_true rfl) rfl (fun X O E => ?_)
  refine g_iconst (x := (nI 0)) O dX5_coverWith_0 (by decide +kernel) ?_
  refine g_istore_n (L' := [(0, .ref h0), (1, .int (nI e)), (2, .int (nI 0))]) O dX5_coverWith_1 rfl (by decide) [1, 2, 0] rfl ?_
  have J2 : ∀ (n_ : Nat), ∀ (i_ : Nat) (hi_ : i_ ≤ 144), 144 - i_ < n_ → G X 0 0 2 [(0, .ref h0), (1, .int (nI e)), (2, .int (nI i_))] [] [(h0, .inr (5, [.ref h1, .ref h2, .ref h3, .int (nI nc), .ref h4, .ref h5, .int la, .int st, .int sw, .int fl, .int sk, .int mu])), (h1, .inl (tyI D, 144, .inl (nf (cvf g e i_))))] := by
    intro n_
    induction n_ with
    | zero => intro i_ hi_ hm_; exact absurd hm_ (Nat.not_lt_zero _)
    | succ n_ ih_ =>
      intro i_ hi_ hm_
      refine g_iload_n O dX5_coverWith_2 2 rfl rfl ?_
      refine g_sipush (x := (nI 144)) O dX5_coverWith_3 (by decide +kernel) ?_
      refine g_icmp_geN (tgt := 22) O (by omega) (by omega) dX5_coverWith_6 (by decide) (fun c_1 => ?_) (fun c_1 => ?_)
      ·
        obtain rfl : i_ = 144 := by omega
        exact E 22 _ _ dX5_coverWith_22 ⟨rfl, rfl⟩
      ·
        refine g_aload_n O dX5_coverWith_9 0 rfl rfl ?_
        refine g_get O hiX5_coverWith_X5 0 rfl rfl 0 (by decide) (by decide +kernel) rfl dX5_coverWith_10 ?_
        refine g_iload_n O dX5_coverWith_13 2 rfl rfl ?_
        refine g_iload_n O dX5_coverWith_14 1 rfl rfl ?_
        refine g_iastN (f' := (nf (upf (cvf g e i_) i_ e))) (ws' := [(h0, .inr (5, [.ref h1, .ref h2, .ref h3, .int (nI nc), .ref h4, .ref h5, .int la, .int st, .int sw, .int fl, .int sk, .int mu])), (h1, .inl (tyI D, 144, .inl (nf (upf (cvf g e i_) i_ e))))]) O 1 rfl (by omega) (by omega) dX5_coverWith_15 (nf_upd _ _ _) rfl ?_
        refine g_iincN (L' := [(0, .ref h0), (1, .int (nI e)), (2, .int (nI (i_ + 1)))]) O dX5_coverWith_16 2 rfl (by decide) [1, 2, 0] rfl ?_
        refine g_goto (tgt := 2) O dX5_coverWith_19 (by decide) ?_
        exact ih_ (i_ + 1) (by first | assumption | omega | rfl) (by omega)
  exact J2 _ 0 (Nat.zero_le _) (Nat.lt_succ_self _)
theorem hiX5_allGrains_X5 : ∀ w ∈ wsX50, w ∈ wsX5_allGrains := by decide +kernel
set_option maxHeartbeats 2000000 in
set_option maxRecDepth 100000 in
/-- all grains -/
theorem kX5_allGrains (l : Launch) (D : va_G) (z : Nat × Nat × Nat) (h0 : Nat) (h1 : Nat) (h2 : Nat) (h3 : Nat) (h4 : Nat) (h5 : Nat) (nc : Nat) (la : Int32) (st : Int32) (sw : Int32) (fl : Int32) (sk : Int32) (mu : Int32) (g : Nat → Nat)  : CM l yX5_allGrains wsX5_allGrains ({ frames := 0, cells := 0, slots := 0, locals := 0 } : Room) D z [.ref h0] [(h0, .inr (5, [.ref h1, .ref h2, .ref h3, .int (nI nc), .ref h4, .ref h5, .int la, .int st, .int sw, .int fl, .int sk, .int mu])), (h1, .inl (tyI D, 144, .inl (nf g)))] (fun r_ w_ => r_ = some (.int (nI (smN g 144))) ∧ w_ = [(h0, .inr (5, [.ref h1, .ref h2, .ref h3, .int (nI nc), .ref h4, .ref h5, .int la, .int st, .int sw, .int fl, .int sk, .int mu])), (h1, .inl (tyI D, 144, .inl (nf g)))]) 0 0 := by
  refine CM_int (own := RX5) (cc := cX5_allGrains) (maxL := 3) (L0 := [(0, .ref h0)]) (by decide) rfl rfl (Nat.le_of_ble_eq_true rfl) rfl (fun X O E => ?_)
  refine g_iconst (x := (nI 0)) O dX5_allGrains_0 (by decide +kernel) ?_
  refine g_istore_n (L' := [(0, .ref h0), (1, .int (nI 0))]) O dX5_allGrains_1 rfl (by decide) [1, 0] rfl ?_
  refine g_iconst (x := (nI 0)) O dX5_allGrains_2 (by decide +kernel) ?_
  refine g_istore_n (L' := [(0, .ref h0), (1, .int (nI 0)), (2, .int (nI 0))]) O dX5_allGrains_3 rfl (by decide) [1, 2, 0] rfl ?_
  have J4 : ∀ (n_ : Nat), ∀ (i_ : Nat) (hi_ : i_ ≤ 144), 144 - i_ < n_ → G X 0 0 4 [(0, .ref h0), (1, .int (nI (smN g i_))), (2, .int (nI i_))] [] [(h0, .inr (5, [.ref h1, .ref h2, .ref h3, .int (nI nc), .ref h4, .ref h5, .int la, .int st, .int sw, .int fl, .int sk, .int mu])), (h1, .inl (tyI D, 144, .inl (nf g)))] := by
    intro n_
    induction n_ with
    | zero => intro i_ hi_ hm_; exact absurd hm_ (Nat.not_lt_zero _)
    | succ n_ ih_ =>
      intro i_ hi_ hm_
      refine g_iload_n O dX5_allGrains_4 2 rfl rfl ?_
      refine g_sipush (x := (nI 144)) O dX5_allGrains_5 (by decide +kernel) ?_
      refine g_icmp_geN (tgt := 26) O (by omega) (by omega) dX5_allGrains_8 (by decide) (fun c_1 => ?_) (fun c_1 => ?_)
      ·
        obtain rfl : i_ = 144 := by omega
        refine g_iload_n O dX5_allGrains_26 1 rfl rfl ?_
        exact E 27 _ (nI (smN g 144)) _ dX5_allGrains_27 ⟨rfl, rfl⟩
      ·
        refine g_iload_n O dX5_allGrains_11 1 rfl rfl ?_
        refine g_aload_n O dX5_allGrains_12 0 rfl rfl ?_
        refine g_get O hiX5_allGrains_X5 0 rfl rfl 0 (by decide) (by decide +kernel) rfl dX5_allGrains_13 ?_
        refine g_iload_n O dX5_allGrains_16 2 rfl rfl ?_
        refine g_ialdN O 1 rfl (by omega) (by omega) dX5_allGrains_17 ?_
        refine g_iaddN O dX5_allGrains_18 ?_
        refine g_istore_n (L' := [(0, .ref h0), (1, .int (nI ((smN g i_) + (g i_)))), (2, .int (nI i_))]) O dX5_allGrains_19 rfl (by decide) [1, 0, 2] rfl ?_
        refine g_iincN (L' := [(0, .ref h0), (1, .int (nI ((smN g i_) + (g i_)))), (2, .int (nI (i_ + 1)))]) O dX5_allGrains_20 2 rfl (by decide) [1, 2, 0] rfl ?_
        refine g_goto (tgt := 4) O dX5_allGrains_23 (by decide) ?_
        exact ih_ (i_ + 1) (by first | assumption | omega | rfl) (by omega)
  exact J4 _ 0 (Nat.zero_le _) (Nat.lt_succ_self _)
theorem hiX5_mostGrains_X5 : ∀ w ∈ wsX50, w ∈ wsX5_mostGrains := by decide +kernel
set_option maxHeartbeats 2000000 in
set_option maxRecDepth 100000 in
/-- the most grains on a place -/
theorem kX5_mostGrains (l : Launch) (D : va_G) (z : Nat × Nat × Nat) (h0 : Nat) (h1 : Nat) (h2 : Nat) (h3 : Nat) (h4 : Nat) (h5 : Nat) (nc : Nat) (la : Int32) (st : Int32) (sw : Int32) (fl : Int32) (sk : Int32) (mu : Int32) (g : Nat → Nat) (hg : ∀ j, j < 144 → g j < 1073741824) : CM l yX5_mostGrains wsX5_mostGrains ({ frames := 1, cells := 0, slots := 0, locals := 21 } : Room) D z [.ref h0] [(h0, .inr (5, [.ref h1, .ref h2, .ref h3, .int (nI nc), .ref h4, .ref h5, .int la, .int st, .int sw, .int fl, .int sk, .int mu])), (h1, .inl (tyI D, 144, .inl (nf g)))] (fun r_ w_ => r_ = some (.int (nI (mxN g 144))) ∧ w_ = [(h0, .inr (5, [.ref h1, .ref h2, .ref h3, .int (nI nc), .ref h4, .ref h5, .int la, .int st, .int sw, .int fl, .int sk, .int mu])), (h1, .inl (tyI D, 144, .inl (nf g)))]) 0 0 := by
  refine CM_int (own := RX5) (cc := cX5_mostGrains) (maxL := 3) (L0 := [(0, .ref h0)]) (by decide) rfl rfl (Nat.le_of_ble_eq_true rfl) rfl (fun X O E => ?_)
  refine g_iconst (x := (nI 0)) O dX5_mostGrains_0 (by decide +kernel) ?_
  refine g_istore_n (L' := [(0, .ref h0), (1, .int (nI 0))]) O dX5_mostGrains_1 rfl (by decide) [1, 0] rfl ?_
  refine g_iconst (x := (nI 0)) O dX5_mostGrains_2 (by decide +kernel) ?_
  refine g_istore_n (L' := [(0, .ref h0), (1, .int (nI 0)), (2, .int (nI 0))]) O dX5_mostGrains_3 rfl (by decide) [1, 2, 0] rfl ?_
  have J4 : ∀ (n_ : Nat), ∀ (i_ : Nat) (hi_ : i_ ≤ 144), 144 - i_ < n_ → G X 0 0 4 [(0, .ref h0), (1, .int (nI (mxN g i_))), (2, .int (nI i_))] [] [(h0, .inr (5, [.ref h1, .ref h2, .ref h3, .int (nI nc), .ref h4, .ref h5, .int la, .int st, .int sw, .int fl, .int sk, .int mu])), (h1, .inl (tyI D, 144, .inl (nf g)))] := by
    intro n_
    induction n_ with
    | zero => intro i_ hi_ hm_; exact absurd hm_ (Nat.not_lt_zero _)
    | succ n_ ih_ =>
      intro i_ hi_ hm_
      refine g_iload_n O dX5_mostGrains_4 2 rfl rfl ?_
      refine g_sipush (x := (nI 144)) O dX5_mostGrains_5 (by decide +kernel) ?_
      refine g_icmp_geN (tgt := 28) O (by omega) (by omega) dX5_mostGrains_8 (by decide) (fun c_1 => ?_) (fun c_1 => ?_)
      ·
        obtain rfl : i_ = 144 := by omega
        refine g_iload_n O dX5_mostGrains_28 1 rfl rfl ?_
        exact E 29 _ (nI (mxN g 144)) _ dX5_mostGrains_29 ⟨rfl, rfl⟩
      ·
        have hgi := hg i_ c_1
        have hmx := mxN_lt (g := g) (b := 1073741824) (n := i_) (by omega) (fun j hj => hg j (by omega))
        refine g_iload_n O dX5_mostGrains_11 1 rfl rfl ?_
        refine g_aload_n O dX5_mostGrains_12 0 rfl rfl ?_
        refine g_get O hiX5_mostGrains_X5 0 rfl rfl 0 (by decide) (by decide +kernel) rfl dX5_mostGrains_13 ?_
        refine g_iload_n O dX5_mostGrains_16 2 rfl rfl ?_
        refine g_ialdN O 1 rfl (by omega) (by omega) dX5_mostGrains_17 ?_
        refine g_max O (by decide +kernel) (by decide +kernel) (by decide +kernel) (by decide +kernel) (by decide) (Nat.le_of_ble_eq_true rfl) (by decide) dX5_mostGrains_18 ?_
        refine g_eq (st' := [.int (nI (max (mxN g i_) (g i_)))]) (by show ([.int (if (nI (mxN g i_)) < (nI (g i_)) then (nI (g i_)) else (nI (mxN g i_)))] : List Value) = _; rw [nI_max (by omega) (by omega)]) rfl rfl ?_
        refine g_istore_n (L' := [(0, .ref h0), (1, .int (nI (max (mxN g i_) (g i_)))), (2, .int (nI i_))]) O dX5_mostGrains_21 rfl (by decide) [1, 0, 2] rfl ?_
        refine g_iincN (L' := [(0, .ref h0), (1, .int (nI (max (mxN g i_) (g i_)))), (2, .int (nI (i_ + 1)))]) O dX5_mostGrains_22 2 rfl (by decide) [1, 2, 0] rfl ?_
        refine g_goto (tgt := 4) O dX5_mostGrains_25 (by decide) ?_
        exact ih_ (i_ + 1) (by first | assumption | omega | rfl) (by omega)
  exact J4 _ 0 (Nat.zero_le _) (Nat.lt_succ_self _)
theorem hiX5_clampOn_X5 : ∀ w ∈ wsX50, w ∈ wsX5_clampOn := by decide +kernel
set_option maxHeartbeats 2000000 in
set_option maxRecDepth 100000 in
/-- the clamp at a place -/
theorem kX5_clampOn (l : Launch) (D : va_G) (z : Nat × Nat × Nat) (h0 : Nat) (h1 : Nat) (h2 : Nat) (h3 : Nat) (h4 : Nat) (h5 : Nat) (nc : Nat) (la : Int32) (st : Int32) (sw : Int32) (fl : Int32) (sk : Int32) (mu : Int32) (cc : Nat → Nat) (cr : Nat → Nat) (x : Nat) (y : Nat) (hnc : nc ≤ 4) (hcc : ∀ j, j < nc → cc j < 12 ∧ cr j < 12) (hx : x < 12) (hy : y < 12) : CM l yX5_clampOn wsX5_clampOn ({ frames := 0, cells := 0, slots := 0, locals := 0 } : Room) D z [.ref h0, .int (nI x), .int (nI y)] [(h0, .inr (5, [.ref h1, .ref h2, .ref h3, .int (nI nc), .ref h4, .ref h5, .int la, .int st, .int sw, .int fl, .int sk, .int mu])), (h2, .inl (tyI D, 4, .inl (nf cc))), (h3, .inl (tyI D, 4, .inl (nf cr)))] (fun r_ w_ => r_ = some (.int (orM (fdB (fun j => cc j == x && cr j == y) nc))) ∧ w_ = [(h0, .inr (5, [.ref h1, .ref h2, .ref h3, .int (nI nc), .ref h4, .ref h5, .int la, .int st, .int sw, .int fl, .int sk, .int mu])), (h2, .inl (tyI D, 4, .inl (nf cc))), (h3, .inl (tyI D, 4, .inl (nf cr)))]) 0 0 := by
  refine CM_int (own := RX5) (cc := cX5_clampOn) (maxL := 4) (L0 := [(0, .ref h0), (1, .int (nI x)), (2, .int (nI y))]) (by decide) rfl rfl (Nat.le_of_ble_eq_true rfl) rfl (fun X O E => ?_)
  refine g_iconst (x := (nI 0)) O dX5_clampOn_0 (by decide +kernel) ?_
  refine g_istore_n (L' := [(0, .ref h0), (1, .int (nI x)), (2, .int (nI y)), (3, .int (nI 0))]) O dX5_clampOn_1 rfl (by decide) [1, 2, 3, 0] rfl ?_
  have J2 : ∀ (n_ : Nat), ∀ (i_ : Nat) (hi_ : i_ ≤ nc) (hno : ∀ j, j < i_ → (fun j => cc j == x && cr j == y) j = false), nc - i_ < n_ → G X 0 0 2 [(0, .ref h0), (1, .int (nI x)), (2, .int (nI y)), (3, .int (nI i_))] [] [(h0, .inr (5, [.ref h1, .ref h2, .ref h3, .int (nI nc), .ref h4, .ref h5, .int la, .int st, .int sw, .int fl, .int sk, .int mu])), (h2, .inl (tyI D, 4, .inl (nf cc))), (h3, .inl (tyI D, 4, .inl (nf cr)))] := by
    intro n_
    induction n_ with
    | zero => intro i_ hi_ hno hm_; exact absurd hm_ (Nat.not_lt_zero _)
    | succ n_ ih_ =>
      intro i_ hi_ hno hm_
      refine g_iload_n O dX5_clampOn_2 3 rfl rfl ?_
      refine g_aload_n O dX5_clampOn_3 0 rfl rfl ?_
      refine g_get O hiX5_clampOn_X5 0 rfl rfl 3 (by decide) (by decide +kernel) rfl dX5_clampOn_4 ?_
      refine g_icmp_geN (tgt := 38) O (by omega) (by omega) dX5_clampOn_7 (by decide) (fun c_1 => ?_) (fun c_1 => ?_)
      ·
        obtain rfl : nc = i_ := by omega
        refine g_iconst (x := (-1)) O dX5_clampOn_38 (by decide +kernel) ?_
        exact E 39 _ (-1) _ dX5_clampOn_39 (by rw [fdB_none.mpr hno]; exact ⟨rfl, rfl⟩)
      ·
        have hci := hcc i_ c_1
        refine g_aload_n O dX5_clampOn_10 0 rfl rfl ?_
        refine g_get O hiX5_clampOn_X5 0 rfl rfl 1 (by decide) (by decide +kernel) rfl dX5_clampOn_11 ?_
        refine g_iload_n O dX5_clampOn_14 3 rfl rfl ?_
        refine g_ialdN O 1 rfl (by omega) (by omega) dX5_clampOn_15 ?_
        refine g_iload_n O dX5_clampOn_16 1 rfl rfl ?_
        refine g_icmp_neN (tgt := 32) O (by omega) (by omega) dX5_clampOn_17 (by decide) (fun c_2 => ?_) (fun c_2 => ?_)
        ·
          refine g_iincN (L' := [(0, .ref h0), (1, .int (nI x)), (2, .int (nI y)), (3, .int (nI (i_ + 1)))]) O dX5_clampOn_32 3 rfl (by decide) [1, 2, 3, 0] rfl ?_
          refine g_goto (tgt := 2) O dX5_clampOn_35 (by decide) ?_
          exact ih_ (i_ + 1) (by first | assumption | omega | rfl) (fun j hj => by rcases Nat.lt_succ_iff_lt_or_eq.mp hj with h | h; exact hno j h; subst h; simp_all) (by omega)
        ·
          refine g_aload_n O dX5_clampOn_20 0 rfl rfl ?_
          refine g_get O hiX5_clampOn_X5 0 rfl rfl 2 (by decide) (by decide +kernel) rfl dX5_clampOn_21 ?_
          refine g_iload_n O dX5_clampOn_24 3 rfl rfl ?_
          refine g_ialdN O 2 rfl (by omega) (by omega) dX5_clampOn_25 ?_
          refine g_iload_n O dX5_clampOn_26 2 rfl rfl ?_
          refine g_icmp_neN (tgt := 32) O (by omega) (by omega) dX5_clampOn_27 (by decide) (fun c_3 => ?_) (fun c_3 => ?_)
          ·
            refine g_iincN (L' := [(0, .ref h0), (1, .int (nI x)), (2, .int (nI y)), (3, .int (nI (i_ + 1)))]) O dX5_clampOn_32 3 rfl (by decide) [1, 2, 3, 0] rfl ?_
            refine g_goto (tgt := 2) O dX5_clampOn_35 (by decide) ?_
            exact ih_ (i_ + 1) (by first | assumption | omega | rfl) (fun j hj => by rcases Nat.lt_succ_iff_lt_or_eq.mp hj with h | h; exact hno j h; subst h; simp_all) (by omega)
          ·
            refine g_iload_n O dX5_clampOn_30 3 rfl rfl ?_
            exact E 31 _ (nI i_) _ dX5_clampOn_31 (by rw [fdB_some.mpr ⟨by omega, by simp_all, hno⟩]; exact ⟨rfl, rfl⟩)
  exact J2 _ 0 (Nat.zero_le _) (fun j hj => absurd hj (Nat.not_lt_zero _)) (Nat.lt_succ_self _)
theorem hiX5_dropClamp_X5 : ∀ w ∈ wsX50, w ∈ wsX5_dropClamp := by decide +kernel
set_option maxHeartbeats 2000000 in
set_option maxRecDepth 100000 in
/-- a clamp goes -/
theorem kX5_dropClamp (l : Launch) (D : va_G) (z : Nat × Nat × Nat) (h0 : Nat) (h1 : Nat) (h2 : Nat) (h3 : Nat) (h4 : Nat) (h5 : Nat) (nc : Nat) (la : Int32) (st : Int32) (sw : Int32) (fl : Int32) (sk : Int32) (mu : Int32) (cc : Nat → Nat) (cr : Nat → Nat) (d : Nat) (hnc : nc ≤ 4) (hd : d < nc) : CM l yX5_dropClamp wsX5_dropClamp ({ frames := 0, cells := 0, slots := 0, locals := 0 } : Room) D z [.ref h0, .int (nI d)] [(h0, .inr (5, [.ref h1, .ref h2, .ref h3, .int (nI nc), .ref h4, .ref h5, .int la, .int st, .int sw, .int fl, .int sk, .int mu])), (h2, .inl (tyI D, 4, .inl (nf cc))), (h3, .inl (tyI D, 4, .inl (nf cr)))] (fun r_ w_ => r_ = none ∧ w_ = [(h0, .inr (5, [.ref h1, .ref h2, .ref h3, .int (nI (nc - 1)), .ref h4, .ref h5, .int la, .int st, .int sw, .int fl, .int sk, .int mu])), (h2, .inl (tyI D, 4, .inl (nf (drf cc d (nc - 1 - d))))), (h3, .inl (tyI D, 4, .inl (nf (drf cr d (nc - 1 - d)))))]) 0 0 := by
  refine CM_void (own := RX5) (cc := cX5_dropClamp) (maxL := 3) (L0 := [(0, .ref h0), (1, .int (nI d))]) (by decide) rfl rfl (Nat.le_of_ble_eq_true rfl) rfl (fun X O E => ?_)
  refine g_iload_n O dX5_dropClamp_0 1 rfl rfl ?_
  refine g_if_ltN (tgt := 12) O (by omega) dX5_dropClamp_1 (by decide) ?_
  refine g_iload_n O dX5_dropClamp_4 1 rfl rfl ?_
  refine g_aload_n O dX5_dropClamp_5 0 rfl rfl ?_
  refine g_get O hiX5_dropClamp_X5 0 rfl rfl 3 (by decide) (by decide +kernel) rfl dX5_dropClamp_6 ?_
  refine g_icmp_ltN (tgt := 13) O (by omega) (by omega) dX5_dropClamp_9 (by decide) (fun c_2 => ?_) (fun c_2 => (by exfalso; omega))
  refine g_iload_n O dX5_dropClamp_13 1 rfl rfl ?_
  refine g_istore_n (L' := [(0, .ref h0), (1, .int (nI d)), (2, .int (nI d))]) O dX5_dropClamp_14 rfl (by decide) [1, 2, 0] rfl ?_
  have J15 : ∀ (n_ : Nat), ∀ (i_ : Nat) (hi_ : d + i_ ≤ nc - 1), nc - i_ < n_ → G X 0 0 15 [(0, .ref h0), (1, .int (nI d)), (2, .int (nI (d + i_)))] [] [(h0, .inr (5, [.ref h1, .ref h2, .ref h3, .int (nI nc), .ref h4, .ref h5, .int la, .int st, .int sw, .int fl, .int sk, .int mu])), (h2, .inl (tyI D, 4, .inl (nf (drf cc d i_)))), (h3, .inl (tyI D, 4, .inl (nf (drf cr d i_))))] := by
    intro n_
    induction n_ with
    | zero => intro i_ hi_ hm_; exact absurd hm_ (Nat.not_lt_zero _)
    | succ n_ ih_ =>
      intro i_ hi_ hm_
      refine g_iload_n O dX5_dropClamp_15 2 rfl rfl ?_
      refine g_aload_n O dX5_dropClamp_16 0 rfl rfl ?_
      refine g_get O hiX5_dropClamp_X5 0 rfl rfl 3 (by decide) (by decide +kernel) rfl dX5_dropClamp_17 ?_
      refine g_iconst (x := (nI 1)) O dX5_dropClamp_20 (by decide +kernel) ?_
      refine g_isubN O (by omega) dX5_dropClamp_21 ?_
      refine g_icmp_geN (tgt := 59) O (by omega) (by omega) dX5_dropClamp_22 (by decide) (fun c_3 => ?_) (fun c_3 => ?_)
      ·
        obtain rfl : i_ = nc - 1 - d := by omega
        refine g_aload_n O dX5_dropClamp_59 0 rfl rfl ?_
        refine g_dup O dX5_dropClamp_60 rfl ?_
        refine g_get O hiX5_dropClamp_X5 0 rfl rfl 3 (by decide) (by decide +kernel) rfl dX5_dropClamp_61 ?_
        refine g_iconst (x := (nI 1)) O dX5_dropClamp_64 (by decide +kernel) ?_
        refine g_isubN O (by omega) dX5_dropClamp_65 ?_
        refine g_put (ws' := [(h0, .inr (5, [.ref h1, .ref h2, .ref h3, .int (nI (nc - 1)), .ref h4, .ref h5, .int la, .int st, .int sw, .int fl, .int sk, .int mu])), (h2, .inl (tyI D, 4, .inl (nf (drf cc d (nc - 1 - d))))), (h3, .inl (tyI D, 4, .inl (nf (drf cr d (nc - 1 - d)))))]) O hiX5_dropClamp_X5 tyX5 tyX5_ok nmX5 0 rfl rfl 3 (by decide) (by decide +kernel) rfl (tyX5_ok 3 (by decide)) rfl rfl (Nat.le_of_ble_eq_true rfl) dX5_dropClamp_66 rfl ?_
        exact E 69 _ _ dX5_dropClamp_69 ⟨rfl, rfl⟩
      ·
        refine g_aload_n O dX5_dropClamp_25 0 rfl rfl ?_
        refine g_get O hiX5_dropClamp_X5 0 rfl rfl 1 (by decide) (by decide +kernel) rfl dX5_dropClamp_26 ?_
        refine g_iload_n O dX5_dropClamp_29 2 rfl rfl ?_
        refine g_aload_n O dX5_dropClamp_30 0 rfl rfl ?_
        refine g_get O hiX5_dropClamp_X5 0 rfl rfl 1 (by decide) (by decide +kernel) rfl dX5_dropClamp_31 ?_
        refine g_iload_n O dX5_dropClamp_34 2 rfl rfl ?_
        refine g_iconst (x := (nI 1)) O dX5_dropClamp_35 (by decide +kernel) ?_
        refine g_iaddN O dX5_dropClamp_36 ?_
        refine g_ialdN O 1 rfl (by omega) (by omega) dX5_dropClamp_37 ?_
        refine g_iastN (f' := (nf (upf (drf cc d i_) (d + i_) ((drf cc d i_) ((d + i_) + 1))))) (ws' := [(h0, .inr (5, [.ref h1, .ref h2, .ref h3, .int (nI nc), .ref h4, .ref h5, .int la, .int st, .int sw, .int fl, .int sk, .int mu])), (h2, .inl (tyI D, 4, .inl (nf (upf (drf cc d i_) (d + i_) ((drf cc d i_) ((d + i_) + 1)))))), (h3, .inl (tyI D, 4, .inl (nf (drf cr d i_))))]) O 1 rfl (by omega) (by omega) dX5_dropClamp_38 (nf_upd _ _ _) rfl ?_
        refine g_aload_n O dX5_dropClamp_39 0 rfl rfl ?_
        refine g_get O hiX5_dropClamp_X5 0 rfl rfl 2 (by decide) (by decide +kernel) rfl dX5_dropClamp_40 ?_
        refine g_iload_n O dX5_dropClamp_43 2 rfl rfl ?_
        refine g_aload_n O dX5_dropClamp_44 0 rfl rfl ?_
        refine g_get O hiX5_dropClamp_X5 0 rfl rfl 2 (by decide) (by decide +kernel) rfl dX5_dropClamp_45 ?_
        refine g_iload_n O dX5_dropClamp_48 2 rfl rfl ?_
        refine g_iconst (x := (nI 1)) O dX5_dropClamp_49 (by decide +kernel) ?_
        refine g_iaddN O dX5_dropClamp_50 ?_
        refine g_ialdN O 2 rfl (by omega) (by omega) dX5_dropClamp_51 ?_
        refine g_iastN (f' := (nf (upf (drf cr d i_) (d + i_) ((drf cr d i_) ((d + i_) + 1))))) (ws' := [(h0, .inr (5, [.ref h1, .ref h2, .ref h3, .int (nI nc), .ref h4, .ref h5, .int la, .int st, .int sw, .int fl, .int sk, .int mu])), (h2, .inl (tyI D, 4, .inl (nf (upf (drf cc d i_) (d + i_) ((drf cc d i_) ((d + i_) + 1)))))), (h3, .inl (tyI D, 4, .inl (nf (upf (drf cr d i_) (d + i_) ((drf cr d i_) ((d + i_) + 1))))))]) O 2 rfl (by omega) (by omega) dX5_dropClamp_52 (nf_upd _ _ _) rfl ?_
        refine g_iincN (L' := [(0, .ref h0), (1, .int (nI d)), (2, .int (nI (d + i_ + 1)))]) O dX5_dropClamp_53 2 rfl (by decide) [1, 2, 0] rfl ?_
        refine g_goto (tgt := 15) O dX5_dropClamp_56 (by decide) ?_
        exact ih_ (i_ + 1) (by first | assumption | omega | rfl) (by omega)
  exact J15 _ 0 (by omega) (Nat.lt_succ_self _)
theorem hiX5_copyFrom_X5 : ∀ w ∈ wsX50, w ∈ wsX5_copyFrom := by decide +kernel
set_option maxHeartbeats 2000000 in
set_option maxRecDepth 100000 in
/-- a state like another -/
theorem kX5_copyFrom (l : Launch) (D : va_G) (z : Nat × Nat × Nat) (h0 : Nat) (h1 : Nat) (h2 : Nat) (h3 : Nat) (h4 : Nat) (h5 : Nat) (h6 : Nat) (h7 : Nat) (h8 : Nat) (o0 : Nat) (o1 : Nat) (o2 : Nat) (o3 : Nat) (o4 : Nat) (o5 : Nat) (o6 : Nat) (o7 : Nat) (o8 : Nat) (s : SV) (o : SV) (hps : sv_ps o ≤ 16) : CM l yX5_copyFrom wsX5_copyFrom ({ frames := 3, cells := 0, slots := 0, locals := 66 } : Room) D z [.ref h0, .ref o0] [(h0, .inr (5, [.ref h1, .ref h2, .ref h3, .int (nI (sv_nc s)), .ref h4, .ref h5, .int (sv_la s), .int (sv_st s), .int (sv_sw s), .int (sv_fl s), .int (sv_sk s), .int (sv_mu s)])), (h1, .inl (tyI D, 144, .inl (nf (sv_g s)))), (h2, .inl (tyI D, 4, .inl (nf (sv_cc s)))), (h3, .inl (tyI D, 4, .inl (nf (sv_cr s)))), (h4, .inl (tyI D, 4, .inl (sv_se s))), (h5, .inr (4, [.int (nI 16), .ref h6, .ref h7, .ref h8, .int (nI (sv_ps s))])), (h6, .inl (tyI D, 16, .inl (nf (sv_fs s)))), (h7, .inl (tyI D, 16, .inl (nf (sv_fa s)))), (h8, .inl (tyI D, 16, .inl (nf (sv_fk s)))), (o0, .inr (5, [.ref o1, .ref o2, .ref o3, .int (nI (sv_nc o)), .ref o4, .ref o5, .int (sv_la o), .int (sv_st o), .int (sv_sw o), .int (sv_fl o), .int (sv_sk o), .int (sv_mu o)])), (o1, .inl (tyI D, 144, .inl (nf (sv_g o)))), (o2, .inl (tyI D, 4, .inl (nf (sv_cc o)))), (o3, .inl (tyI D, 4, .inl (nf (sv_cr o)))), (o4, .inl (tyI D, 4, .inl (sv_se o))), (o5, .inr (4, [.int (nI 16), .ref o6, .ref o7, .ref o8, .int (nI (sv_ps o))])), (o6, .inl (tyI D, 16, .inl (nf (sv_fs o)))), (o7, .inl (tyI D, 16, .inl (nf (sv_fa o)))), (o8, .inl (tyI D, 16, .inl (nf (sv_fk o))))] (fun r_ w_ => r_ = none ∧ w_ = [(h0, .inr (5, [.ref h1, .ref h2, .ref h3, .int (nI (sv_nc (cpS s o))), .ref h4, .ref h5, .int (sv_la (cpS s o)), .int (sv_st (cpS s o)), .int (sv_sw (cpS s o)), .int (sv_fl (cpS s o)), .int (sv_sk (cpS s o)), .int (sv_mu (cpS s o))])), (h1, .inl (tyI D, 144, .inl (nf (sv_g (cpS s o))))), (h2, .inl (tyI D, 4, .inl (nf (sv_cc (cpS s o))))), (h3, .inl (tyI D, 4, .inl (nf (sv_cr (cpS s o))))), (h4, .inl (tyI D, 4, .inl (sv_se (cpS s o)))), (h5, .inr (4, [.int (nI 16), .ref h6, .ref h7, .ref h8, .int (nI (sv_ps (cpS s o)))])), (h6, .inl (tyI D, 16, .inl (nf (sv_fs (cpS s o))))), (h7, .inl (tyI D, 16, .inl (nf (sv_fa (cpS s o))))), (h8, .inl (tyI D, 16, .inl (nf (sv_fk (cpS s o))))), (o0, .inr (5, [.ref o1, .ref o2, .ref o3, .int (nI (sv_nc o)), .ref o4, .ref o5, .int (sv_la o), .int (sv_st o), .int (sv_sw o), .int (sv_fl o), .int (sv_sk o), .int (sv_mu o)])), (o1, .inl (tyI D, 144, .inl (nf (sv_g o)))), (o2, .inl (tyI D, 4, .inl (nf (sv_cc o)))), (o3, .inl (tyI D, 4, .inl (nf (sv_cr o)))), (o4, .inl (tyI D, 4, .inl (sv_se o))), (o5, .inr (4, [.int (nI 16), .ref o6, .ref o7, .ref o8, .int (nI (sv_ps o))])), (o6, .inl (tyI D, 16, .inl (nf (sv_fs o)))), (o7, .inl (tyI D, 16, .inl (nf (sv_fa o)))), (o8, .inl (tyI D, 16, .inl (nf (sv_fk o))))]) 0 0 := by
  refine CM_void (own := RX5) (cc := cX5_copyFrom) (maxL := 2) (L0 := [(0, .ref h0), (1, .ref o0)]) (by decide) rfl rfl (Nat.le_of_ble_eq_true rfl) rfl (fun X O E => ?_)
  refine g_aload_n O dX5_copyFrom_0 1 rfl rfl ?_
  refine g_get O hiX5_copyFrom_X5 9 rfl rfl 0 (by decide) (by decide +kernel) rfl dX5_copyFrom_1 ?_
  refine g_iconst (x := (nI 0)) O dX5_copyFrom_4 (by decide +kernel) ?_
  refine g_aload_n O dX5_copyFrom_5 0 rfl rfl ?_
  refine g_get O hiX5_copyFrom_X5 0 rfl rfl 0 (by decide) (by decide +kernel) rfl dX5_copyFrom_6 ?_
  refine g_iconst (x := (nI 0)) O dX5_copyFrom_9 (by decide +kernel) ?_
  refine g_sipush (x := (nI 144)) O dX5_copyFrom_10 (by decide +kernel) ?_
  refine g_copyI (f' := (nf (va_cpy (sv_g o) (sv_g s) 0 0 144))) (ws' := [(h0, .inr (5, [.ref h1, .ref h2, .ref h3, .int (nI (sv_nc s)), .ref h4, .ref h5, .int (sv_la s), .int (sv_st s), .int (sv_sw s), .int (sv_fl s), .int (sv_sk s), .int (sv_mu s)])), (h1, .inl (tyI D, 144, .inl (nf (va_cpy (sv_g o) (sv_g s) 0 0 144)))), (h2, .inl (tyI D, 4, .inl (nf (sv_cc s)))), (h3, .inl (tyI D, 4, .inl (nf (sv_cr s)))), (h4, .inl (tyI D, 4, .inl (sv_se s))), (h5, .inr (4, [.int (nI 16), .ref h6, .ref h7, .ref h8, .int (nI (sv_ps s))])), (h6, .inl (tyI D, 16, .inl (nf (sv_fs s)))), (h7, .inl (tyI D, 16, .inl (nf (sv_fa s)))), (h8, .inl (tyI D, 16, .inl (nf (sv_fk s)))), (o0, .inr (5, [.ref o1, .ref o2, .ref o3, .int (nI (sv_nc o)), .ref o4, .ref o5, .int (sv_la o), .int (sv_st o), .int (sv_sw o), .int (sv_fl o), .int (sv_sk o), .int (sv_mu o)])), (o1, .inl (tyI D, 144, .inl (nf (sv_g o)))), (o2, .inl (tyI D, 4, .inl (nf (sv_cc o)))), (o3, .inl (tyI D, 4, .inl (nf (sv_cr o)))), (o4, .inl (tyI D, 4, .inl (sv_se o))), (o5, .inr (4, [.int (nI 16), .ref o6, .ref o7, .ref o8, .int (nI (sv_ps o))])), (o6, .inl (tyI D, 16, .inl (nf (sv_fs o)))), (o7, .inl (tyI D, 16, .inl (nf (sv_fa o)))), (o8, .inl (tyI D, 16, .inl (nf (sv_fk o))))]) O 10 1 rfl rfl (by decide +kernel) (by decide +kernel) (by decide +kernel) (by decide +kernel) (by decide +kernel) (by decide +kernel) (by decide +kernel) (by decide +kernel) (by decide +kernel) (by decide) (Nat.le_of_ble_eq_true rfl) dX5_copyFrom_13 (nf_cpy (by decide) (by decide) (by decide)) rfl ?_
  refine g_aload_n O dX5_copyFrom_16 1 rfl rfl ?_
  refine g_get O hiX5_copyFrom_X5 9 rfl rfl 1 (by decide) (by decide +kernel) rfl dX5_copyFrom_17 ?_
  refine g_iconst (x := (nI 0)) O dX5_copyFrom_20 (by decide +kernel) ?_
  refine g_aload_n O dX5_copyFrom_21 0 rfl rfl ?_
  refine g_get O hiX5_copyFrom_X5 0 rfl rfl 1 (by decide) (by decide +kernel) rfl dX5_copyFrom_22 ?_
  refine g_iconst (x := (nI 0)) O dX5_copyFrom_25 (by decide +kernel) ?_
  refine g_iconst (x := (nI 4)) O dX5_copyFrom_26 (by decide +kernel) ?_
  refine g_copyI (f' := (nf (va_cpy (sv_cc o) (sv_cc s) 0 0 4))) (ws' := [(h0, .inr (5, [.ref h1, .ref h2, .ref h3, .int (nI (sv_nc s)), .ref h4, .ref h5, .int (sv_la s), .int (sv_st s), .int (sv_sw s), .int (sv_fl s), .int (sv_sk s), .int (sv_mu s)])), (h1, .inl (tyI D, 144, .inl (nf (va_cpy (sv_g o) (sv_g s) 0 0 144)))), (h2, .inl (tyI D, 4, .inl (nf (va_cpy (sv_cc o) (sv_cc s) 0 0 4)))), (h3, .inl (tyI D, 4, .inl (nf (sv_cr s)))), (h4, .inl (tyI D, 4, .inl (sv_se s))), (h5, .inr (4, [.int (nI 16), .ref h6, .ref h7, .ref h8, .int (nI (sv_ps s))])), (h6, .inl (tyI D, 16, .inl (nf (sv_fs s)))), (h7, .inl (tyI D, 16, .inl (nf (sv_fa s)))), (h8, .inl (tyI D, 16, .inl (nf (sv_fk s)))), (o0, .inr (5, [.ref o1, .ref o2, .ref o3, .int (nI (sv_nc o)), .ref o4, .ref o5, .int (sv_la o), .int (sv_st o), .int (sv_sw o), .int (sv_fl o), .int (sv_sk o), .int (sv_mu o)])), (o1, .inl (tyI D, 144, .inl (nf (sv_g o)))), (o2, .inl (tyI D, 4, .inl (nf (sv_cc o)))), (o3, .inl (tyI D, 4, .inl (nf (sv_cr o)))), (o4, .inl (tyI D, 4, .inl (sv_se o))), (o5, .inr (4, [.int (nI 16), .ref o6, .ref o7, .ref o8, .int (nI (sv_ps o))])), (o6, .inl (tyI D, 16, .inl (nf (sv_fs o)))), (o7, .inl (tyI D, 16, .inl (nf (sv_fa o)))), (o8, .inl (tyI D, 16, .inl (nf (sv_fk o))))]) O 11 2 rfl rfl (by decide +kernel) (by decide +kernel) (by decide +kernel) (by decide +kernel) (by decide +kernel) (by decide +kernel) (by decide +kernel) (by decide +kernel) (by decide +kernel) (by decide) (Nat.le_of_ble_eq_true rfl) dX5_copyFrom_27 (nf_cpy (by decide) (by decide) (by decide)) rfl ?_
  refine g_aload_n O dX5_copyFrom_30 1 rfl rfl ?_
  refine g_get O hiX5_copyFrom_X5 9 rfl rfl 2 (by decide) (by decide +kernel) rfl dX5_copyFrom_31 ?_
  refine g_iconst (x := (nI 0)) O dX5_copyFrom_34 (by decide +kernel) ?_
  refine g_aload_n O dX5_copyFrom_35 0 rfl rfl ?_
  refine g_get O hiX5_copyFrom_X5 0 rfl rfl 2 (by decide) (by decide +kernel) rfl dX5_copyFrom_36 ?_
  refine g_iconst (x := (nI 0)) O dX5_copyFrom_39 (by decide +kernel) ?_
  refine g_iconst (x := (nI 4)) O dX5_copyFrom_40 (by decide +kernel) ?_
  refine g_copyI (f' := (nf (va_cpy (sv_cr o) (sv_cr s) 0 0 4))) (ws' := [(h0, .inr (5, [.ref h1, .ref h2, .ref h3, .int (nI (sv_nc s)), .ref h4, .ref h5, .int (sv_la s), .int (sv_st s), .int (sv_sw s), .int (sv_fl s), .int (sv_sk s), .int (sv_mu s)])), (h1, .inl (tyI D, 144, .inl (nf (va_cpy (sv_g o) (sv_g s) 0 0 144)))), (h2, .inl (tyI D, 4, .inl (nf (va_cpy (sv_cc o) (sv_cc s) 0 0 4)))), (h3, .inl (tyI D, 4, .inl (nf (va_cpy (sv_cr o) (sv_cr s) 0 0 4)))), (h4, .inl (tyI D, 4, .inl (sv_se s))), (h5, .inr (4, [.int (nI 16), .ref h6, .ref h7, .ref h8, .int (nI (sv_ps s))])), (h6, .inl (tyI D, 16, .inl (nf (sv_fs s)))), (h7, .inl (tyI D, 16, .inl (nf (sv_fa s)))), (h8, .inl (tyI D, 16, .inl (nf (sv_fk s)))), (o0, .inr (5, [.ref o1, .ref o2, .ref o3, .int (nI (sv_nc o)), .ref o4, .ref o5, .int (sv_la o), .int (sv_st o), .int (sv_sw o), .int (sv_fl o), .int (sv_sk o), .int (sv_mu o)])), (o1, .inl (tyI D, 144, .inl (nf (sv_g o)))), (o2, .inl (tyI D, 4, .inl (nf (sv_cc o)))), (o3, .inl (tyI D, 4, .inl (nf (sv_cr o)))), (o4, .inl (tyI D, 4, .inl (sv_se o))), (o5, .inr (4, [.int (nI 16), .ref o6, .ref o7, .ref o8, .int (nI (sv_ps o))])), (o6, .inl (tyI D, 16, .inl (nf (sv_fs o)))), (o7, .inl (tyI D, 16, .inl (nf (sv_fa o)))), (o8, .inl (tyI D, 16, .inl (nf (sv_fk o))))]) O 12 3 rfl rfl (by decide +kernel) (by decide +kernel) (by decide +kernel) (by decide +kernel) (by decide +kernel) (by decide +kernel) (by decide +kernel) (by decide +kernel) (by decide +kernel) (by decide) (Nat.le_of_ble_eq_true rfl) dX5_copyFrom_41 (nf_cpy (by decide) (by decide) (by decide)) rfl ?_
  refine g_aload_n O dX5_copyFrom_44 0 rfl rfl ?_
  refine g_aload_n O dX5_copyFrom_45 1 rfl rfl ?_
  refine g_get O hiX5_copyFrom_X5 9 rfl rfl 3 (by decide) (by decide +kernel) rfl dX5_copyFrom_46 ?_
  refine g_put (ws' := [(h0, .inr (5, [.ref h1, .ref h2, .ref h3, .int (nI (sv_nc o)), .ref h4, .ref h5, .int (sv_la s), .int (sv_st s), .int (sv_sw s), .int (sv_fl s), .int (sv_sk s), .int (sv_mu s)])), (h1, .inl (tyI D, 144, .inl (nf (va_cpy (sv_g o) (sv_g s) 0 0 144)))), (h2, .inl (tyI D, 4, .inl (nf (va_cpy (sv_cc o) (sv_cc s) 0 0 4)))), (h3, .inl (tyI D, 4, .inl (nf (va_cpy (sv_cr o) (sv_cr s) 0 0 4)))), (h4, .inl (tyI D, 4, .inl (sv_se s))), (h5, .inr (4, [.int (nI 16), .ref h6, .ref h7, .ref h8, .int (nI (sv_ps s))])), (h6, .inl (tyI D, 16, .inl (nf (sv_fs s)))), (h7, .inl (tyI D, 16, .inl (nf (sv_fa s)))), (h8, .inl (tyI D, 16, .inl (nf (sv_fk s)))), (o0, .inr (5, [.ref o1, .ref o2, .ref o3, .int (nI (sv_nc o)), .ref o4, .ref o5, .int (sv_la o), .int (sv_st o), .int (sv_sw o), .int (sv_fl o), .int (sv_sk o), .int (sv_mu o)])), (o1, .inl (tyI D, 144, .inl (nf (sv_g o)))), (o2, .inl (tyI D, 4, .inl (nf (sv_cc o)))), (o3, .inl (tyI D, 4, .inl (nf (sv_cr o)))), (o4, .inl (tyI D, 4, .inl (sv_se o))), (o5, .inr (4, [.int (nI 16), .ref o6, .ref o7, .ref o8, .int (nI (sv_ps o))])), (o6, .inl (tyI D, 16, .inl (nf (sv_fs o)))), (o7, .inl (tyI D, 16, .inl (nf (sv_fa o)))), (o8, .inl (tyI D, 16, .inl (nf (sv_fk o))))]) O hiX5_copyFrom_X5 tyX5 tyX5_ok nmX5 0 rfl rfl 3 (by decide) (by decide +kernel) rfl (tyX5_ok 3 (by decide)) rfl rfl (Nat.le_of_ble_eq_true rfl) dX5_copyFrom_49 rfl ?_
  refine g_aload_n O dX5_copyFrom_52 1 rfl rfl ?_
  refine g_get O hiX5_copyFrom_X5 9 rfl rfl 4 (by decide) (by decide +kernel) rfl dX5_copyFrom_53 ?_
  refine g_iconst (x := (nI 0)) O dX5_copyFrom_56 (by decide +kernel) ?_
  refine g_aload_n O dX5_copyFrom_57 0 rfl rfl ?_
  refine g_get O hiX5_copyFrom_X5 0 rfl rfl 4 (by decide) (by decide +kernel) rfl dX5_copyFrom_58 ?_
  refine g_iconst (x := (nI 0)) O dX5_copyFrom_61 (by decide +kernel) ?_
  refine g_iconst (x := (nI 4)) O dX5_copyFrom_62 (by decide +kernel) ?_
  refine g_copyI (f' := (va_cpy (sv_se o) (sv_se s) 0 0 4)) (ws' := [(h0, .inr (5, [.ref h1, .ref h2, .ref h3, .int (nI (sv_nc o)), .ref h4, .ref h5, .int (sv_la s), .int (sv_st s), .int (sv_sw s), .int (sv_fl s), .int (sv_sk s), .int (sv_mu s)])), (h1, .inl (tyI D, 144, .inl (nf (va_cpy (sv_g o) (sv_g s) 0 0 144)))), (h2, .inl (tyI D, 4, .inl (nf (va_cpy (sv_cc o) (sv_cc s) 0 0 4)))), (h3, .inl (tyI D, 4, .inl (nf (va_cpy (sv_cr o) (sv_cr s) 0 0 4)))), (h4, .inl (tyI D, 4, .inl (va_cpy (sv_se o) (sv_se s) 0 0 4))), (h5, .inr (4, [.int (nI 16), .ref h6, .ref h7, .ref h8, .int (nI (sv_ps s))])), (h6, .inl (tyI D, 16, .inl (nf (sv_fs s)))), (h7, .inl (tyI D, 16, .inl (nf (sv_fa s)))), (h8, .inl (tyI D, 16, .inl (nf (sv_fk s)))), (o0, .inr (5, [.ref o1, .ref o2, .ref o3, .int (nI (sv_nc o)), .ref o4, .ref o5, .int (sv_la o), .int (sv_st o), .int (sv_sw o), .int (sv_fl o), .int (sv_sk o), .int (sv_mu o)])), (o1, .inl (tyI D, 144, .inl (nf (sv_g o)))), (o2, .inl (tyI D, 4, .inl (nf (sv_cc o)))), (o3, .inl (tyI D, 4, .inl (nf (sv_cr o)))), (o4, .inl (tyI D, 4, .inl (sv_se o))), (o5, .inr (4, [.int (nI 16), .ref o6, .ref o7, .ref o8, .int (nI (sv_ps o))])), (o6, .inl (tyI D, 16, .inl (nf (sv_fs o)))), (o7, .inl (tyI D, 16, .inl (nf (sv_fa o)))), (o8, .inl (tyI D, 16, .inl (nf (sv_fk o))))]) O 13 4 rfl rfl (by decide +kernel) (by decide +kernel) (by decide +kernel) (by decide +kernel) (by decide +kernel) (by decide +kernel) (by decide +kernel) (by decide +kernel) (by decide +kernel) (by decide) (Nat.le_of_ble_eq_true rfl) dX5_copyFrom_63 (cpy_r (by decide) (by decide) (by decide)) rfl ?_
  refine g_aload_n O dX5_copyFrom_66 0 rfl rfl ?_
  refine g_get O hiX5_copyFrom_X5 0 rfl rfl 5 (by decide) (by decide +kernel) rfl dX5_copyFrom_67 ?_
  refine g_aload_n O dX5_copyFrom_70 1 rfl rfl ?_
  refine g_get O hiX5_copyFrom_X5 9 rfl rfl 5 (by decide) (by decide +kernel) rfl dX5_copyFrom_71 ?_
  refine g_callV (As := [.ref o5]) (wr := [(h0, .inr (5, [.ref h1, .ref h2, .ref h3, .int (nI (sv_nc o)), .ref h4, .ref h5, .int (sv_la s), .int (sv_st s), .int (sv_sw s), .int (sv_fl s), .int (sv_sk s), .int (sv_mu s)])), (h1, .inl (tyI D, 144, .inl (nf (va_cpy (sv_g o) (sv_g s) 0 0 144)))), (h2, .inl (tyI D, 4, .inl (nf (va_cpy (sv_cc o) (sv_cc s) 0 0 4)))), (h3, .inl (tyI D, 4, .inl (nf (va_cpy (sv_cr o) (sv_cr s) 0 0 4)))), (h4, .inl (tyI D, 4, .inl (va_cpy (sv_se o) (sv_se s) 0 0 4))), (o0, .inr (5, [.ref o1, .ref o2, .ref o3, .int (nI (sv_nc o)), .ref o4, .ref o5, .int (sv_la o), .int (sv_st o), .int (sv_sw o), .int (sv_fl o), .int (sv_sk o), .int (sv_mu o)])), (o1, .inl (tyI D, 144, .inl (nf (sv_g o)))), (o2, .inl (tyI D, 4, .inl (nf (sv_cc o)))), (o3, .inl (tyI D, 4, .inl (nf (sv_cr o)))), (o4, .inl (tyI D, 4, .inl (sv_se o)))]) O (kX4_copyFrom l D z h5 h6 h7 h8 o5 o6 o7 o8 16 (sv_ps s) 16 (sv_ps o) (sv_fs s) (sv_fa s) (sv_fk s) (sv_fs o) (sv_fa o) (sv_fk o) (by first | assumption | omega) (by first | assumption | omega) (by first | assumption | omega) (by first | assumption | omega)) gX5_copyFrom_X4_copyFrom rfl rfl rfl 1 (by decide +kernel) (by decide) (by decide) (q0 := 0) rfl rfl rfl [5, 6, 7, 8, 14, 15, 16, 17] [0, 1, 2, 3, 4, 9, 10, 11, 12, 13] rfl (by decide) rfl (by decide) (by decide) rfl rfl (Nat.le_of_ble_eq_true rfl) dX5_copyFrom_74 (fun r_1 w_2 hp => ?_)
  obtain ⟨rfl, rfl⟩ := hp
  refine g_eq (st' := []) (ws' := [(h0, .inr (5, [.ref h1, .ref h2, .ref h3, .int (nI (sv_nc o)), .ref h4, .ref h5, .int (sv_la s), .int (sv_st s), .int (sv_sw s), .int (sv_fl s), .int (sv_sk s), .int (sv_mu s)])), (h1, .inl (tyI D, 144, .inl (nf (va_cpy (sv_g o) (sv_g s) 0 0 144)))), (h2, .inl (tyI D, 4, .inl (nf (va_cpy (sv_cc o) (sv_cc s) 0 0 4)))), (h3, .inl (tyI D, 4, .inl (nf (va_cpy (sv_cr o) (sv_cr s) 0 0 4)))), (h4, .inl (tyI D, 4, .inl (va_cpy (sv_se o) (sv_se s) 0 0 4))), (o0, .inr (5, [.ref o1, .ref o2, .ref o3, .int (nI (sv_nc o)), .ref o4, .ref o5, .int (sv_la o), .int (sv_st o), .int (sv_sw o), .int (sv_fl o), .int (sv_sk o), .int (sv_mu o)])), (o1, .inl (tyI D, 144, .inl (nf (sv_g o)))), (o2, .inl (tyI D, 4, .inl (nf (sv_cc o)))), (o3, .inl (tyI D, 4, .inl (nf (sv_cr o)))), (o4, .inl (tyI D, 4, .inl (sv_se o))), (h5, .inr (4, [.int (nI 16), .ref h6, .ref h7, .ref h8, .int (nI (sv_ps o))])), (h6, .inl (tyI D, 16, .inl (nf (apf (sv_fs s) (sv_fs o) 0 (sv_ps o))))), (h7, .inl (tyI D, 16, .inl (nf (apf (sv_fa s) (sv_fa o) 0 (sv_ps o))))), (h8, .inl (tyI D, 16, .inl (nf (apf (sv_fk s) (sv_fk o) 0 (sv_ps o))))), (o5, .inr (4, [.int (nI 16), .ref o6, .ref o7, .ref o8, .int (nI (sv_ps o))])), (o6, .inl (tyI D, 16, .inl (nf (sv_fs o)))), (o7, .inl (tyI D, 16, .inl (nf (sv_fa o)))), (o8, .inl (tyI D, 16, .inl (nf (sv_fk o))))]) rfl rfl rfl ?_
  refine g_aload_n O dX5_copyFrom_77 0 rfl rfl ?_
  refine g_aload_n O dX5_copyFrom_78 1 rfl rfl ?_
  refine g_get O hiX5_copyFrom_X5 5 rfl rfl 6 (by decide) (by decide +kernel) rfl dX5_copyFrom_79 ?_
  refine g_put (ws' := [(h0, .inr (5, [.ref h1, .ref h2, .ref h3, .int (nI (sv_nc o)), .ref h4, .ref h5, .int (sv_la o), .int (sv_st s), .int (sv_sw s), .int (sv_fl s), .int (sv_sk s), .int (sv_mu s)])), (h1, .inl (tyI D, 144, .inl (nf (va_cpy (sv_g o) (sv_g s) 0 0 144)))), (h2, .inl (tyI D, 4, .inl (nf (va_cpy (sv_cc o) (sv_cc s) 0 0 4)))), (h3, .inl (tyI D, 4, .inl (nf (va_cpy (sv_cr o) (sv_cr s) 0 0 4)))), (h4, .inl (tyI D, 4, .inl (va_cpy (sv_se o) (sv_se s) 0 0 4))), (o0, .inr (5, [.ref o1, .ref o2, .ref o3, .int (nI (sv_nc o)), .ref o4, .ref o5, .int (sv_la o), .int (sv_st o), .int (sv_sw o), .int (sv_fl o), .int (sv_sk o), .int (sv_mu o)])), (o1, .inl (tyI D, 144, .inl (nf (sv_g o)))), (o2, .inl (tyI D, 4, .inl (nf (sv_cc o)))), (o3, .inl (tyI D, 4, .inl (nf (sv_cr o)))), (o4, .inl (tyI D, 4, .inl (sv_se o))), (h5, .inr (4, [.int (nI 16), .ref h6, .ref h7, .ref h8, .int (nI (sv_ps o))])), (h6, .inl (tyI D, 16, .inl (nf (apf (sv_fs s) (sv_fs o) 0 (sv_ps o))))), (h7, .inl (tyI D, 16, .inl (nf (apf (sv_fa s) (sv_fa o) 0 (sv_ps o))))), (h8, .inl (tyI D, 16, .inl (nf (apf (sv_fk s) (sv_fk o) 0 (sv_ps o))))), (o5, .inr (4, [.int (nI 16), .ref o6, .ref o7, .ref o8, .int (nI (sv_ps o))])), (o6, .inl (tyI D, 16, .inl (nf (sv_fs o)))), (o7, .inl (tyI D, 16, .inl (nf (sv_fa o)))), (o8, .inl (tyI D, 16, .inl (nf (sv_fk o))))]) O hiX5_copyFrom_X5 tyX5 tyX5_ok nmX5 0 rfl rfl 6 (by decide) (by decide +kernel) rfl (tyX5_ok 6 (by decide)) rfl rfl (Nat.le_of_ble_eq_true rfl) dX5_copyFrom_82 rfl ?_
  refine g_aload_n O dX5_copyFrom_85 0 rfl rfl ?_
  refine g_aload_n O dX5_copyFrom_86 1 rfl rfl ?_
  refine g_get O hiX5_copyFrom_X5 5 rfl rfl 7 (by decide) (by decide +kernel) rfl dX5_copyFrom_87 ?_
  refine g_put (ws' := [(h0, .inr (5, [.ref h1, .ref h2, .ref h3, .int (nI (sv_nc o)), .ref h4, .ref h5, .int (sv_la o), .int (sv_st o), .int (sv_sw s), .int (sv_fl s), .int (sv_sk s), .int (sv_mu s)])), (h1, .inl (tyI D, 144, .inl (nf (va_cpy (sv_g o) (sv_g s) 0 0 144)))), (h2, .inl (tyI D, 4, .inl (nf (va_cpy (sv_cc o) (sv_cc s) 0 0 4)))), (h3, .inl (tyI D, 4, .inl (nf (va_cpy (sv_cr o) (sv_cr s) 0 0 4)))), (h4, .inl (tyI D, 4, .inl (va_cpy (sv_se o) (sv_se s) 0 0 4))), (o0, .inr (5, [.ref o1, .ref o2, .ref o3, .int (nI (sv_nc o)), .ref o4, .ref o5, .int (sv_la o), .int (sv_st o), .int (sv_sw o), .int (sv_fl o), .int (sv_sk o), .int (sv_mu o)])), (o1, .inl (tyI D, 144, .inl (nf (sv_g o)))), (o2, .inl (tyI D, 4, .inl (nf (sv_cc o)))), (o3, .inl (tyI D, 4, .inl (nf (sv_cr o)))), (o4, .inl (tyI D, 4, .inl (sv_se o))), (h5, .inr (4, [.int (nI 16), .ref h6, .ref h7, .ref h8, .int (nI (sv_ps o))])), (h6, .inl (tyI D, 16, .inl (nf (apf (sv_fs s) (sv_fs o) 0 (sv_ps o))))), (h7, .inl (tyI D, 16, .inl (nf (apf (sv_fa s) (sv_fa o) 0 (sv_ps o))))), (h8, .inl (tyI D, 16, .inl (nf (apf (sv_fk s) (sv_fk o) 0 (sv_ps o))))), (o5, .inr (4, [.int (nI 16), .ref o6, .ref o7, .ref o8, .int (nI (sv_ps o))])), (o6, .inl (tyI D, 16, .inl (nf (sv_fs o)))), (o7, .inl (tyI D, 16, .inl (nf (sv_fa o)))), (o8, .inl (tyI D, 16, .inl (nf (sv_fk o))))]) O hiX5_copyFrom_X5 tyX5 tyX5_ok nmX5 0 rfl rfl 7 (by decide) (by decide +kernel) rfl (tyX5_ok 7 (by decide)) rfl rfl (Nat.le_of_ble_eq_true rfl) dX5_copyFrom_90 rfl ?_
  refine g_aload_n O dX5_copyFrom_93 0 rfl rfl ?_
  refine g_aload_n O dX5_copyFrom_94 1 rfl rfl ?_
  refine g_get O hiX5_copyFrom_X5 5 rfl rfl 8 (by decide) (by decide +kernel) rfl dX5_copyFrom_95 ?_
  refine g_put (ws' := [(h0, .inr (5, [.ref h1, .ref h2, .ref h3, .int (nI (sv_nc o)), .ref h4, .ref h5, .int (sv_la o), .int (sv_st o), .int (sv_sw o), .int (sv_fl s), .int (sv_sk s), .int (sv_mu s)])), (h1, .inl (tyI D, 144, .inl (nf (va_cpy (sv_g o) (sv_g s) 0 0 144)))), (h2, .inl (tyI D, 4, .inl (nf (va_cpy (sv_cc o) (sv_cc s) 0 0 4)))), (h3, .inl (tyI D, 4, .inl (nf (va_cpy (sv_cr o) (sv_cr s) 0 0 4)))), (h4, .inl (tyI D, 4, .inl (va_cpy (sv_se o) (sv_se s) 0 0 4))), (o0, .inr (5, [.ref o1, .ref o2, .ref o3, .int (nI (sv_nc o)), .ref o4, .ref o5, .int (sv_la o), .int (sv_st o), .int (sv_sw o), .int (sv_fl o), .int (sv_sk o), .int (sv_mu o)])), (o1, .inl (tyI D, 144, .inl (nf (sv_g o)))), (o2, .inl (tyI D, 4, .inl (nf (sv_cc o)))), (o3, .inl (tyI D, 4, .inl (nf (sv_cr o)))), (o4, .inl (tyI D, 4, .inl (sv_se o))), (h5, .inr (4, [.int (nI 16), .ref h6, .ref h7, .ref h8, .int (nI (sv_ps o))])), (h6, .inl (tyI D, 16, .inl (nf (apf (sv_fs s) (sv_fs o) 0 (sv_ps o))))), (h7, .inl (tyI D, 16, .inl (nf (apf (sv_fa s) (sv_fa o) 0 (sv_ps o))))), (h8, .inl (tyI D, 16, .inl (nf (apf (sv_fk s) (sv_fk o) 0 (sv_ps o))))), (o5, .inr (4, [.int (nI 16), .ref o6, .ref o7, .ref o8, .int (nI (sv_ps o))])), (o6, .inl (tyI D, 16, .inl (nf (sv_fs o)))), (o7, .inl (tyI D, 16, .inl (nf (sv_fa o)))), (o8, .inl (tyI D, 16, .inl (nf (sv_fk o))))]) O hiX5_copyFrom_X5 tyX5 tyX5_ok nmX5 0 rfl rfl 8 (by decide) (by decide +kernel) rfl (tyX5_ok 8 (by decide)) rfl rfl (Nat.le_of_ble_eq_true rfl) dX5_copyFrom_98 rfl ?_
  refine g_aload_n O dX5_copyFrom_101 0 rfl rfl ?_
  refine g_aload_n O dX5_copyFrom_102 1 rfl rfl ?_
  refine g_get O hiX5_copyFrom_X5 5 rfl rfl 9 (by decide) (by decide +kernel) rfl dX5_copyFrom_103 ?_
  refine g_put (ws' := [(h0, .inr (5, [.ref h1, .ref h2, .ref h3, .int (nI (sv_nc o)), .ref h4, .ref h5, .int (sv_la o), .int (sv_st o), .int (sv_sw o), .int (sv_fl o), .int (sv_sk s), .int (sv_mu s)])), (h1, .inl (tyI D, 144, .inl (nf (va_cpy (sv_g o) (sv_g s) 0 0 144)))), (h2, .inl (tyI D, 4, .inl (nf (va_cpy (sv_cc o) (sv_cc s) 0 0 4)))), (h3, .inl (tyI D, 4, .inl (nf (va_cpy (sv_cr o) (sv_cr s) 0 0 4)))), (h4, .inl (tyI D, 4, .inl (va_cpy (sv_se o) (sv_se s) 0 0 4))), (o0, .inr (5, [.ref o1, .ref o2, .ref o3, .int (nI (sv_nc o)), .ref o4, .ref o5, .int (sv_la o), .int (sv_st o), .int (sv_sw o), .int (sv_fl o), .int (sv_sk o), .int (sv_mu o)])), (o1, .inl (tyI D, 144, .inl (nf (sv_g o)))), (o2, .inl (tyI D, 4, .inl (nf (sv_cc o)))), (o3, .inl (tyI D, 4, .inl (nf (sv_cr o)))), (o4, .inl (tyI D, 4, .inl (sv_se o))), (h5, .inr (4, [.int (nI 16), .ref h6, .ref h7, .ref h8, .int (nI (sv_ps o))])), (h6, .inl (tyI D, 16, .inl (nf (apf (sv_fs s) (sv_fs o) 0 (sv_ps o))))), (h7, .inl (tyI D, 16, .inl (nf (apf (sv_fa s) (sv_fa o) 0 (sv_ps o))))), (h8, .inl (tyI D, 16, .inl (nf (apf (sv_fk s) (sv_fk o) 0 (sv_ps o))))), (o5, .inr (4, [.int (nI 16), .ref o6, .ref o7, .ref o8, .int (nI (sv_ps o))])), (o6, .inl (tyI D, 16, .inl (nf (sv_fs o)))), (o7, .inl (tyI D, 16, .inl (nf (sv_fa o)))), (o8, .inl (tyI D, 16, .inl (nf (sv_fk o))))]) O hiX5_copyFrom_X5 tyX5 tyX5_ok nmX5 0 rfl rfl 9 (by decide) (by decide +kernel) rfl (tyX5_ok 9 (by decide)) rfl rfl (Nat.le_of_ble_eq_true rfl) dX5_copyFrom_106 rfl ?_
  refine g_aload_n O dX5_copyFrom_109 0 rfl rfl ?_
  refine g_aload_n O dX5_copyFrom_110 1 rfl rfl ?_
  refine g_get O hiX5_copyFrom_X5 5 rfl rfl 10 (by decide) (by decide +kernel) rfl dX5_copyFrom_111 ?_
  refine g_put (ws' := [(h0, .inr (5, [.ref h1, .ref h2, .ref h3, .int (nI (sv_nc o)), .ref h4, .ref h5, .int (sv_la o), .int (sv_st o), .int (sv_sw o), .int (sv_fl o), .int (sv_sk o), .int (sv_mu s)])), (h1, .inl (tyI D, 144, .inl (nf (va_cpy (sv_g o) (sv_g s) 0 0 144)))), (h2, .inl (tyI D, 4, .inl (nf (va_cpy (sv_cc o) (sv_cc s) 0 0 4)))), (h3, .inl (tyI D, 4, .inl (nf (va_cpy (sv_cr o) (sv_cr s) 0 0 4)))), (h4, .inl (tyI D, 4, .inl (va_cpy (sv_se o) (sv_se s) 0 0 4))), (o0, .inr (5, [.ref o1, .ref o2, .ref o3, .int (nI (sv_nc o)), .ref o4, .ref o5, .int (sv_la o), .int (sv_st o), .int (sv_sw o), .int (sv_fl o), .int (sv_sk o), .int (sv_mu o)])), (o1, .inl (tyI D, 144, .inl (nf (sv_g o)))), (o2, .inl (tyI D, 4, .inl (nf (sv_cc o)))), (o3, .inl (tyI D, 4, .inl (nf (sv_cr o)))), (o4, .inl (tyI D, 4, .inl (sv_se o))), (h5, .inr (4, [.int (nI 16), .ref h6, .ref h7, .ref h8, .int (nI (sv_ps o))])), (h6, .inl (tyI D, 16, .inl (nf (apf (sv_fs s) (sv_fs o) 0 (sv_ps o))))), (h7, .inl (tyI D, 16, .inl (nf (apf (sv_fa s) (sv_fa o) 0 (sv_ps o))))), (h8, .inl (tyI D, 16, .inl (nf (apf (sv_fk s) (sv_fk o) 0 (sv_ps o))))), (o5, .inr (4, [.int (nI 16), .ref o6, .ref o7, .ref o8, .int (nI (sv_ps o))])), (o6, .inl (tyI D, 16, .inl (nf (sv_fs o)))), (o7, .inl (tyI D, 16, .inl (nf (sv_fa o)))), (o8, .inl (tyI D, 16, .inl (nf (sv_fk o))))]) O hiX5_copyFrom_X5 tyX5 tyX5_ok nmX5 0 rfl rfl 10 (by decide) (by decide +kernel) rfl (tyX5_ok 10 (by decide)) rfl rfl (Nat.le_of_ble_eq_true rfl) dX5_copyFrom_114 rfl ?_
  refine g_aload_n O dX5_copyFrom_117 0 rfl rfl ?_
  refine g_aload_n O dX5_copyFrom_118 1 rfl rfl ?_
  refine g_get O hiX5_copyFrom_X5 5 rfl rfl 11 (by decide) (by decide +kernel) rfl dX5_copyFrom_119 ?_
  refine g_put (ws' := [(h0, .inr (5, [.ref h1, .ref h2, .ref h3, .int (nI (sv_nc o)), .ref h4, .ref h5, .int (sv_la o), .int (sv_st o), .int (sv_sw o), .int (sv_fl o), .int (sv_sk o), .int (sv_mu o)])), (h1, .inl (tyI D, 144, .inl (nf (va_cpy (sv_g o) (sv_g s) 0 0 144)))), (h2, .inl (tyI D, 4, .inl (nf (va_cpy (sv_cc o) (sv_cc s) 0 0 4)))), (h3, .inl (tyI D, 4, .inl (nf (va_cpy (sv_cr o) (sv_cr s) 0 0 4)))), (h4, .inl (tyI D, 4, .inl (va_cpy (sv_se o) (sv_se s) 0 0 4))), (o0, .inr (5, [.ref o1, .ref o2, .ref o3, .int (nI (sv_nc o)), .ref o4, .ref o5, .int (sv_la o), .int (sv_st o), .int (sv_sw o), .int (sv_fl o), .int (sv_sk o), .int (sv_mu o)])), (o1, .inl (tyI D, 144, .inl (nf (sv_g o)))), (o2, .inl (tyI D, 4, .inl (nf (sv_cc o)))), (o3, .inl (tyI D, 4, .inl (nf (sv_cr o)))), (o4, .inl (tyI D, 4, .inl (sv_se o))), (h5, .inr (4, [.int (nI 16), .ref h6, .ref h7, .ref h8, .int (nI (sv_ps o))])), (h6, .inl (tyI D, 16, .inl (nf (apf (sv_fs s) (sv_fs o) 0 (sv_ps o))))), (h7, .inl (tyI D, 16, .inl (nf (apf (sv_fa s) (sv_fa o) 0 (sv_ps o))))), (h8, .inl (tyI D, 16, .inl (nf (apf (sv_fk s) (sv_fk o) 0 (sv_ps o))))), (o5, .inr (4, [.int (nI 16), .ref o6, .ref o7, .ref o8, .int (nI (sv_ps o))])), (o6, .inl (tyI D, 16, .inl (nf (sv_fs o)))), (o7, .inl (tyI D, 16, .inl (nf (sv_fa o)))), (o8, .inl (tyI D, 16, .inl (nf (sv_fk o))))]) O hiX5_copyFrom_X5 tyX5 tyX5_ok nmX5 0 rfl rfl 11 (by decide) (by decide +kernel) rfl (tyX5_ok 11 (by decide)) rfl rfl (Nat.le_of_ble_eq_true rfl) dX5_copyFrom_122 rfl ?_
  refine g_perm (ws' := [(h0, .inr (5, [.ref h1, .ref h2, .ref h3, .int (nI (sv_nc o)), .ref h4, .ref h5, .int (sv_la o), .int (sv_st o), .int (sv_sw o), .int (sv_fl o), .int (sv_sk o), .int (sv_mu o)])), (h1, .inl (tyI D, 144, .inl (nf (va_cpy (sv_g o) (sv_g s) 0 0 144)))), (h2, .inl (tyI D, 4, .inl (nf (va_cpy (sv_cc o) (sv_cc s) 0 0 4)))), (h3, .inl (tyI D, 4, .inl (nf (va_cpy (sv_cr o) (sv_cr s) 0 0 4)))), (h4, .inl (tyI D, 4, .inl (va_cpy (sv_se o) (sv_se s) 0 0 4))), (h5, .inr (4, [.int (nI 16), .ref h6, .ref h7, .ref h8, .int (nI (sv_ps o))])), (h6, .inl (tyI D, 16, .inl (nf (apf (sv_fs s) (sv_fs o) 0 (sv_ps o))))), (h7, .inl (tyI D, 16, .inl (nf (apf (sv_fa s) (sv_fa o) 0 (sv_ps o))))), (h8, .inl (tyI D, 16, .inl (nf (apf (sv_fk s) (sv_fk o) 0 (sv_ps o))))), (o0, .inr (5, [.ref o1, .ref o2, .ref o3, .int (nI (sv_nc o)), .ref o4, .ref o5, .int (sv_la o), .int (sv_st o), .int (sv_sw o), .int (sv_fl o), .int (sv_sk o), .int (sv_mu o)])), (o1, .inl (tyI D, 144, .inl (nf (sv_g o)))), (o2, .inl (tyI D, 4, .inl (nf (sv_cc o)))), (o3, .inl (tyI D, 4, .inl (nf (sv_cr o)))), (o4, .inl (tyI D, 4, .inl (sv_se o))), (o5, .inr (4, [.int (nI 16), .ref o6, .ref o7, .ref o8, .int (nI (sv_ps o))])), (o6, .inl (tyI D, 16, .inl (nf (sv_fs o)))), (o7, .inl (tyI D, 16, .inl (nf (sv_fa o)))), (o8, .inl (tyI D, 16, .inl (nf (sv_fk o))))]) [0, 1, 2, 3, 4, 10, 11, 12, 13, 5, 6, 7, 8, 9, 14, 15, 16, 17] rfl (by decide) ?_
  exact E 125 _ _ dX5_copyFrom_125 ⟨rfl, rfl⟩
def SV0 : SV := mkS (cvf (fun _ => 0) 5 144) (fun _ => 0) (fun _ => 0) 0 (va_cpy zF (nf (fun _ => 0)) 0 0 4) (fun _ => 0) (fun _ => 0) (fun _ => 0) 0 (-1) (nI 720) (nI 0) (nI 0) (nI 0) (nI 0)
theorem hiX5_init_X4 : ∀ w ∈ wsX40, w ∈ wsX5_init := by decide +kernel
theorem hiX5_init_X5 : ∀ w ∈ wsX50, w ∈ wsX5_init := by decide +kernel
set_option maxHeartbeats 2000000 in
set_option maxRecDepth 100000 in
/-- a new state -/
theorem kX5_init (l : Launch) (D : va_G) (z : Nat × Nat × Nat) (h0 : Nat)  : CM l yX5_init wsX5_init ({ frames := 2, cells := 8, slots := 209, locals := 42 } : Room) D z [.ref h0] [(h0, .inr (5, [.null, .null, .null, .int (nI 0), .null, .null, .int (nI 0), .int (nI 0), .int (nI 0), .int (nI 0), .int (nI 0), .int (nI 0)]))] (fun r_ w_ => ∃ (q0 : Nat), ∃ (q1 : Nat), ∃ (q2 : Nat), ∃ (q3 : Nat), ∃ (q4 : Nat), ∃ (q5 : Nat), ∃ (q6 : Nat), ∃ (q7 : Nat), r_ = none ∧ w_ = [(h0, .inr (5, [.ref q0, .ref q1, .ref q2, .int (nI (sv_nc SV0)), .ref q3, .ref q4, .int (sv_la SV0), .int (sv_st SV0), .int (sv_sw SV0), .int (sv_fl SV0), .int (sv_sk SV0), .int (sv_mu SV0)])), (q0, .inl (tyI D, 144, .inl (nf (sv_g SV0)))), (q1, .inl (tyI D, 4, .inl (nf (sv_cc SV0)))), (q2, .inl (tyI D, 4, .inl (nf (sv_cr SV0)))), (q3, .inl (tyI D, 4, .inl (sv_se SV0))), (q4, .inr (4, [.int (nI 16), .ref q5, .ref q6, .ref q7, .int (nI (sv_ps SV0))])), (q5, .inl (tyI D, 16, .inl (nf (sv_fs SV0)))), (q6, .inl (tyI D, 16, .inl (nf (sv_fa SV0)))), (q7, .inl (tyI D, 16, .inl (nf (sv_fk SV0))))]) 8 209 := by
  refine CM_void (own := RX5) (cc := cX5_init) (maxL := 1) (L0 := [(0, .ref h0)]) (by decide) rfl rfl (Nat.le_of_ble_eq_true rfl) rfl (fun X O E => ?_)
  refine g_aload_n O dX5_init_0 0 rfl rfl ?_
  refine g_objInit O (by decide +kernel) (by decide +kernel) (by decide +kernel) (by decide) (Nat.le_of_ble_eq_true rfl) dX5_init_1 ?_
  refine g_aload_n O dX5_init_4 0 rfl rfl ?_
  refine g_sipush (x := (nI 144)) O dX5_init_5 (by decide +kernel) ?_
  refine g_newI (N := 144) O (by decide +kernel) (nI_pos (by decide)) (nI_clamp (by decide)) (by decide) (by decide) (by decide) dX5_init_8 (fun q_1 => ?_)
  refine g_eq (ws' := [(h0, .inr (5, [.null, .null, .null, .int (nI 0), .null, .null, .int (nI 0), .int (nI 0), .int (nI 0), .int (nI 0), .int (nI 0), .int (nI 0)])), (q_1, .inl (tyI D, 144, .inl (nf (fun _ => 0))))]) rfl rfl (by rfl) ?_
  refine g_putF (ws' := [(h0, .inr (5, [.ref q_1, .null, .null, .int (nI 0), .null, .null, .int (nI 0), .int (nI 0), .int (nI 0), .int (nI 0), .int (nI 0), .int (nI 0)])), (q_1, .inl (tyI D, 144, .inl (nf (fun _ => 0))))]) O hiX5_init_X5 tyX5 tyX5_ok nmX5 0 rfl rfl 0 (by decide) (by decide +kernel) rfl rfl rfl (tyX5_ok 0 (by decide)) rfl rfl (Nat.le_of_ble_eq_true rfl) dX5_init_10 rfl ?_
  refine g_aload_n O dX5_init_13 0 rfl rfl ?_
  refine g_iconst (x := (nI 4)) O dX5_init_14 (by decide +kernel) ?_
  refine g_newI (N := 4) O (by decide +kernel) (nI_pos (by decide)) (nI_clamp (by decide)) (by decide) (by decide) (by decide) dX5_init_15 (fun q_2 => ?_)
  refine g_eq (ws' := [(h0, .inr (5, [.ref q_1, .null, .null, .int (nI 0), .null, .null, .int (nI 0), .int (nI 0), .int (nI 0), .int (nI 0), .int (nI 0), .int (nI 0)])), (q_1, .inl (tyI D, 144, .inl (nf (fun _ => 0)))), (q_2, .inl (tyI D, 4, .inl (nf (fun _ => 0))))]) rfl rfl (by rfl) ?_
  refine g_putF (ws' := [(h0, .inr (5, [.ref q_1, .ref q_2, .null, .int (nI 0), .null, .null, .int (nI 0), .int (nI 0), .int (nI 0), .int (nI 0), .int (nI 0), .int (nI 0)])), (q_1, .inl (tyI D, 144, .inl (nf (fun _ => 0)))), (q_2, .inl (tyI D, 4, .inl (nf (fun _ => 0))))]) O hiX5_init_X5 tyX5 tyX5_ok nmX5 0 rfl rfl 1 (by decide) (by decide +kernel) rfl rfl rfl (tyX5_ok 1 (by decide)) rfl rfl (Nat.le_of_ble_eq_true rfl) dX5_init_17 rfl ?_
  refine g_aload_n O dX5_init_20 0 rfl rfl ?_
  refine g_iconst (x := (nI 4)) O dX5_init_21 (by decide +kernel) ?_
  refine g_newI (N := 4) O (by decide +kernel) (nI_pos (by decide)) (nI_clamp (by decide)) (by decide) (by decide) (by decide) dX5_init_22 (fun q_3 => ?_)
  refine g_eq (ws' := [(h0, .inr (5, [.ref q_1, .ref q_2, .null, .int (nI 0), .null, .null, .int (nI 0), .int (nI 0), .int (nI 0), .int (nI 0), .int (nI 0), .int (nI 0)])), (q_1, .inl (tyI D, 144, .inl (nf (fun _ => 0)))), (q_2, .inl (tyI D, 4, .inl (nf (fun _ => 0)))), (q_3, .inl (tyI D, 4, .inl (nf (fun _ => 0))))]) rfl rfl (by rfl) ?_
  refine g_putF (ws' := [(h0, .inr (5, [.ref q_1, .ref q_2, .ref q_3, .int (nI 0), .null, .null, .int (nI 0), .int (nI 0), .int (nI 0), .int (nI 0), .int (nI 0), .int (nI 0)])), (q_1, .inl (tyI D, 144, .inl (nf (fun _ => 0)))), (q_2, .inl (tyI D, 4, .inl (nf (fun _ => 0)))), (q_3, .inl (tyI D, 4, .inl (nf (fun _ => 0))))]) O hiX5_init_X5 tyX5 tyX5_ok nmX5 0 rfl rfl 2 (by decide) (by decide +kernel) rfl rfl rfl (tyX5_ok 2 (by decide)) rfl rfl (Nat.le_of_ble_eq_true rfl) dX5_init_24 rfl ?_
  refine g_aload_n O dX5_init_27 0 rfl rfl ?_
  refine g_iconst (x := (nI 0)) O dX5_init_28 (by decide +kernel) ?_
  refine g_put (ws' := [(h0, .inr (5, [.ref q_1, .ref q_2, .ref q_3, .int (nI 0), .null, .null, .int (nI 0), .int (nI 0), .int (nI 0), .int (nI 0), .int (nI 0), .int (nI 0)])), (q_1, .inl (tyI D, 144, .inl (nf (fun _ => 0)))), (q_2, .inl (tyI D, 4, .inl (nf (fun _ => 0)))), (q_3, .inl (tyI D, 4, .inl (nf (fun _ => 0))))]) O hiX5_init_X5 tyX5 tyX5_ok nmX5 0 rfl rfl 3 (by decide) (by decide +kernel) rfl (tyX5_ok 3 (by decide)) rfl rfl (Nat.le_of_ble_eq_true rfl) dX5_init_29 rfl ?_
  refine g_aload_n O dX5_init_32 0 rfl rfl ?_
  refine g_iconst (x := (nI 4)) O dX5_init_33 (by decide +kernel) ?_
  refine g_newI (N := 4) O (by decide +kernel) (nI_pos (by decide)) (nI_clamp (by decide)) (by decide) (by decide) (by decide) dX5_init_34 (fun q_4 => ?_)
  refine g_eq (ws' := [(h0, .inr (5, [.ref q_1, .ref q_2, .ref q_3, .int (nI 0), .null, .null, .int (nI 0), .int (nI 0), .int (nI 0), .int (nI 0), .int (nI 0), .int (nI 0)])), (q_1, .inl (tyI D, 144, .inl (nf (fun _ => 0)))), (q_2, .inl (tyI D, 4, .inl (nf (fun _ => 0)))), (q_3, .inl (tyI D, 4, .inl (nf (fun _ => 0)))), (q_4, .inl (tyI D, 4, .inl (nf (fun _ => 0))))]) rfl rfl (by rfl) ?_
  refine g_putF (ws' := [(h0, .inr (5, [.ref q_1, .ref q_2, .ref q_3, .int (nI 0), .ref q_4, .null, .int (nI 0), .int (nI 0), .int (nI 0), .int (nI 0), .int (nI 0), .int (nI 0)])), (q_1, .inl (tyI D, 144, .inl (nf (fun _ => 0)))), (q_2, .inl (tyI D, 4, .inl (nf (fun _ => 0)))), (q_3, .inl (tyI D, 4, .inl (nf (fun _ => 0)))), (q_4, .inl (tyI D, 4, .inl (nf (fun _ => 0))))]) O hiX5_init_X5 tyX5 tyX5_ok nmX5 0 rfl rfl 4 (by decide) (by decide +kernel) rfl rfl rfl (tyX5_ok 4 (by decide)) rfl rfl (Nat.le_of_ble_eq_true rfl) dX5_init_36 rfl ?_
  refine g_aload_n O dX5_init_39 0 rfl rfl ?_
  refine g_new (ci := 4) (fs := [.int 0, .null, .null, .null, .int 0]) O hiX5_init_X4 tyX4 tyX4_ok (by decide +kernel) (by decide +kernel) (by decide +kernel) rfl (fun j hj => by rcases (show j = 0 ∨ j = 1 ∨ j = 2 ∨ j = 3 ∨ j = 4 by omega) with rfl | rfl | rfl | rfl | rfl <;> rfl) (by decide) (by decide) dX5_init_40 (fun q_5 => ?_)
  refine g_eq (ws' := [(h0, .inr (5, [.ref q_1, .ref q_2, .ref q_3, .int (nI 0), .ref q_4, .null, .int (nI 0), .int (nI 0), .int (nI 0), .int (nI 0), .int (nI 0), .int (nI 0)])), (q_1, .inl (tyI D, 144, .inl (nf (fun _ => 0)))), (q_2, .inl (tyI D, 4, .inl (nf (fun _ => 0)))), (q_3, .inl (tyI D, 4, .inl (nf (fun _ => 0)))), (q_4, .inl (tyI D, 4, .inl (nf (fun _ => 0)))), (q_5, .inr (4, [.int (nI 0), .null, .null, .null, .int (nI 0)]))]) rfl rfl rfl ?_
  refine g_dup O dX5_init_43 rfl ?_
  refine g_bipush (x := (nI 16)) O dX5_init_44 (by decide +kernel) ?_
  refine g_callI (As := [.int (nI 16)]) (wr := [(h0, .inr (5, [.ref q_1, .ref q_2, .ref q_3, .int (nI 0), .ref q_4, .null, .int (nI 0), .int (nI 0), .int (nI 0), .int (nI 0), .int (nI 0), .int (nI 0)])), (q_1, .inl (tyI D, 144, .inl (nf (fun _ => 0)))), (q_2, .inl (tyI D, 4, .inl (nf (fun _ => 0)))), (q_3, .inl (tyI D, 4, .inl (nf (fun _ => 0)))), (q_4, .inl (tyI D, 4, .inl (nf (fun _ => 0))))]) O (kX4_init16 l D z q_5 ) gX5_init_X4_init rfl rfl rfl 1 (by decide +kernel) (by decide) (by decide) (by decide +kernel) (by decide +kernel) (by decide +kernel) rfl [5] [0, 1, 2, 3, 4] rfl (by decide) rfl (by decide) (by decide) rfl rfl (Nat.le_of_ble_eq_true rfl) dX5_init_46 (fun r_6 w_7 hp => ?_)
  obtain ⟨q0_8, q1_9, q2_10, rfl, rfl⟩ := hp
  refine g_eq (st' := [.ref q_5, .ref h0]) (ws' := [(h0, .inr (5, [.ref q_1, .ref q_2, .ref q_3, .int (nI 0), .ref q_4, .null, .int (nI 0), .int (nI 0), .int (nI 0), .int (nI 0), .int (nI 0), .int (nI 0)])), (q_1, .inl (tyI D, 144, .inl (nf (fun _ => 0)))), (q_2, .inl (tyI D, 4, .inl (nf (fun _ => 0)))), (q_3, .inl (tyI D, 4, .inl (nf (fun _ => 0)))), (q_4, .inl (tyI D, 4, .inl (nf (fun _ => 0)))), (q_5, .inr (4, [.int (nI 16), .ref q0_8, .ref q1_9, .ref q2_10, .int (nI 0)])), (q0_8, .inl (tyI D, 16, .inl (nf (fun _ => 0)))), (q1_9, .inl (tyI D, 16, .inl (nf (fun _ => 0)))), (q2_10, .inl (tyI D, 16, .inl (nf (fun _ => 0))))]) rfl rfl rfl ?_
  refine g_putF (ws' := [(h0, .inr (5, [.ref q_1, .ref q_2, .ref q_3, .int (nI 0), .ref q_4, .ref q_5, .int (nI 0), .int (nI 0), .int (nI 0), .int (nI 0), .int (nI 0), .int (nI 0)])), (q_1, .inl (tyI D, 144, .inl (nf (fun _ => 0)))), (q_2, .inl (tyI D, 4, .inl (nf (fun _ => 0)))), (q_3, .inl (tyI D, 4, .inl (nf (fun _ => 0)))), (q_4, .inl (tyI D, 4, .inl (nf (fun _ => 0)))), (q_5, .inr (4, [.int (nI 16), .ref q0_8, .ref q1_9, .ref q2_10, .int (nI 0)])), (q0_8, .inl (tyI D, 16, .inl (nf (fun _ => 0)))), (q1_9, .inl (tyI D, 16, .inl (nf (fun _ => 0)))), (q2_10, .inl (tyI D, 16, .inl (nf (fun _ => 0))))]) O hiX5_init_X5 tyX5 tyX5_ok nmX5 0 rfl rfl 5 (by decide) (by decide +kernel) rfl rfl rfl (tyX5_ok 5 (by decide)) rfl rfl (Nat.le_of_ble_eq_true rfl) dX5_init_49 rfl ?_
  refine g_aload_n O dX5_init_52 0 rfl rfl ?_
  refine g_iconst (x := (-1)) O dX5_init_53 (by decide +kernel) ?_
  refine g_put (ws' := [(h0, .inr (5, [.ref q_1, .ref q_2, .ref q_3, .int (nI 0), .ref q_4, .ref q_5, .int (-1), .int (nI 0), .int (nI 0), .int (nI 0), .int (nI 0), .int (nI 0)])), (q_1, .inl (tyI D, 144, .inl (nf (fun _ => 0)))), (q_2, .inl (tyI D, 4, .inl (nf (fun _ => 0)))), (q_3, .inl (tyI D, 4, .inl (nf (fun _ => 0)))), (q_4, .inl (tyI D, 4, .inl (nf (fun _ => 0)))), (q_5, .inr (4, [.int (nI 16), .ref q0_8, .ref q1_9, .ref q2_10, .int (nI 0)])), (q0_8, .inl (tyI D, 16, .inl (nf (fun _ => 0)))), (q1_9, .inl (tyI D, 16, .inl (nf (fun _ => 0)))), (q2_10, .inl (tyI D, 16, .inl (nf (fun _ => 0))))]) O hiX5_init_X5 tyX5 tyX5_ok nmX5 0 rfl rfl 6 (by decide) (by decide +kernel) rfl (tyX5_ok 6 (by decide)) rfl rfl (Nat.le_of_ble_eq_true rfl) dX5_init_54 rfl ?_
  refine g_aload_n O dX5_init_57 0 rfl rfl ?_
  refine g_sipush (x := (nI 720)) O dX5_init_58 (by decide +kernel) ?_
  refine g_put (ws' := [(h0, .inr (5, [.ref q_1, .ref q_2, .ref q_3, .int (nI 0), .ref q_4, .ref q_5, .int (-1), .int (nI 720), .int (nI 0), .int (nI 0), .int (nI 0), .int (nI 0)])), (q_1, .inl (tyI D, 144, .inl (nf (fun _ => 0)))), (q_2, .inl (tyI D, 4, .inl (nf (fun _ => 0)))), (q_3, .inl (tyI D, 4, .inl (nf (fun _ => 0)))), (q_4, .inl (tyI D, 4, .inl (nf (fun _ => 0)))), (q_5, .inr (4, [.int (nI 16), .ref q0_8, .ref q1_9, .ref q2_10, .int (nI 0)])), (q0_8, .inl (tyI D, 16, .inl (nf (fun _ => 0)))), (q1_9, .inl (tyI D, 16, .inl (nf (fun _ => 0)))), (q2_10, .inl (tyI D, 16, .inl (nf (fun _ => 0))))]) O hiX5_init_X5 tyX5 tyX5_ok nmX5 0 rfl rfl 7 (by decide) (by decide +kernel) rfl (tyX5_ok 7 (by decide)) rfl rfl (Nat.le_of_ble_eq_true rfl) dX5_init_61 rfl ?_
  refine g_aload_n O dX5_init_64 0 rfl rfl ?_
  refine g_iconst (x := (nI 0)) O dX5_init_65 (by decide +kernel) ?_
  refine g_put (ws' := [(h0, .inr (5, [.ref q_1, .ref q_2, .ref q_3, .int (nI 0), .ref q_4, .ref q_5, .int (-1), .int (nI 720), .int (nI 0), .int (nI 0), .int (nI 0), .int (nI 0)])), (q_1, .inl (tyI D, 144, .inl (nf (fun _ => 0)))), (q_2, .inl (tyI D, 4, .inl (nf (fun _ => 0)))), (q_3, .inl (tyI D, 4, .inl (nf (fun _ => 0)))), (q_4, .inl (tyI D, 4, .inl (nf (fun _ => 0)))), (q_5, .inr (4, [.int (nI 16), .ref q0_8, .ref q1_9, .ref q2_10, .int (nI 0)])), (q0_8, .inl (tyI D, 16, .inl (nf (fun _ => 0)))), (q1_9, .inl (tyI D, 16, .inl (nf (fun _ => 0)))), (q2_10, .inl (tyI D, 16, .inl (nf (fun _ => 0))))]) O hiX5_init_X5 tyX5 tyX5_ok nmX5 0 rfl rfl 8 (by decide) (by decide +kernel) rfl (tyX5_ok 8 (by decide)) rfl rfl (Nat.le_of_ble_eq_true rfl) dX5_init_66 rfl ?_
  refine g_aload_n O dX5_init_69 0 rfl rfl ?_
  refine g_iconst (x := (nI 0)) O dX5_init_70 (by decide +kernel) ?_
  refine g_put (ws' := [(h0, .inr (5, [.ref q_1, .ref q_2, .ref q_3, .int (nI 0), .ref q_4, .ref q_5, .int (-1), .int (nI 720), .int (nI 0), .int (nI 0), .int (nI 0), .int (nI 0)])), (q_1, .inl (tyI D, 144, .inl (nf (fun _ => 0)))), (q_2, .inl (tyI D, 4, .inl (nf (fun _ => 0)))), (q_3, .inl (tyI D, 4, .inl (nf (fun _ => 0)))), (q_4, .inl (tyI D, 4, .inl (nf (fun _ => 0)))), (q_5, .inr (4, [.int (nI 16), .ref q0_8, .ref q1_9, .ref q2_10, .int (nI 0)])), (q0_8, .inl (tyI D, 16, .inl (nf (fun _ => 0)))), (q1_9, .inl (tyI D, 16, .inl (nf (fun _ => 0)))), (q2_10, .inl (tyI D, 16, .inl (nf (fun _ => 0))))]) O hiX5_init_X5 tyX5 tyX5_ok nmX5 0 rfl rfl 9 (by decide) (by decide +kernel) rfl (tyX5_ok 9 (by decide)) rfl rfl (Nat.le_of_ble_eq_true rfl) dX5_init_71 rfl ?_
  refine g_aload_n O dX5_init_74 0 rfl rfl ?_
  refine g_iconst (x := (nI 0)) O dX5_init_75 (by decide +kernel) ?_
  refine g_put (ws' := [(h0, .inr (5, [.ref q_1, .ref q_2, .ref q_3, .int (nI 0), .ref q_4, .ref q_5, .int (-1), .int (nI 720), .int (nI 0), .int (nI 0), .int (nI 0), .int (nI 0)])), (q_1, .inl (tyI D, 144, .inl (nf (fun _ => 0)))), (q_2, .inl (tyI D, 4, .inl (nf (fun _ => 0)))), (q_3, .inl (tyI D, 4, .inl (nf (fun _ => 0)))), (q_4, .inl (tyI D, 4, .inl (nf (fun _ => 0)))), (q_5, .inr (4, [.int (nI 16), .ref q0_8, .ref q1_9, .ref q2_10, .int (nI 0)])), (q0_8, .inl (tyI D, 16, .inl (nf (fun _ => 0)))), (q1_9, .inl (tyI D, 16, .inl (nf (fun _ => 0)))), (q2_10, .inl (tyI D, 16, .inl (nf (fun _ => 0))))]) O hiX5_init_X5 tyX5 tyX5_ok nmX5 0 rfl rfl 10 (by decide) (by decide +kernel) rfl (tyX5_ok 10 (by decide)) rfl rfl (Nat.le_of_ble_eq_true rfl) dX5_init_76 rfl ?_
  refine g_aload_n O dX5_init_79 0 rfl rfl ?_
  refine g_iconst (x := (nI 0)) O dX5_init_80 (by decide +kernel) ?_
  refine g_put (ws' := [(h0, .inr (5, [.ref q_1, .ref q_2, .ref q_3, .int (nI 0), .ref q_4, .ref q_5, .int (-1), .int (nI 720), .int (nI 0), .int (nI 0), .int (nI 0), .int (nI 0)])), (q_1, .inl (tyI D, 144, .inl (nf (fun _ => 0)))), (q_2, .inl (tyI D, 4, .inl (nf (fun _ => 0)))), (q_3, .inl (tyI D, 4, .inl (nf (fun _ => 0)))), (q_4, .inl (tyI D, 4, .inl (nf (fun _ => 0)))), (q_5, .inr (4, [.int (nI 16), .ref q0_8, .ref q1_9, .ref q2_10, .int (nI 0)])), (q0_8, .inl (tyI D, 16, .inl (nf (fun _ => 0)))), (q1_9, .inl (tyI D, 16, .inl (nf (fun _ => 0)))), (q2_10, .inl (tyI D, 16, .inl (nf (fun _ => 0))))]) O hiX5_init_X5 tyX5 tyX5_ok nmX5 0 rfl rfl 11 (by decide) (by decide +kernel) rfl (tyX5_ok 11 (by decide)) rfl rfl (Nat.le_of_ble_eq_true rfl) dX5_init_81 rfl ?_
  refine g_aload_n O dX5_init_84 0 rfl rfl ?_
  refine g_iconst (x := (nI 5)) O dX5_init_85 (by decide +kernel) ?_
  refine g_callV (As := [.int (nI 5)]) (wr := [(q_2, .inl (tyI D, 4, .inl (nf (fun _ => 0)))), (q_3, .inl (tyI D, 4, .inl (nf (fun _ => 0)))), (q_4, .inl (tyI D, 4, .inl (nf (fun _ => 0)))), (q_5, .inr (4, [.int (nI 16), .ref q0_8, .ref q1_9, .ref q2_10, .int (nI 0)])), (q0_8, .inl (tyI D, 16, .inl (nf (fun _ => 0)))), (q1_9, .inl (tyI D, 16, .inl (nf (fun _ => 0)))), (q2_10, .inl (tyI D, 16, .inl (nf (fun _ => 0))))]) O (kX5_coverWith l D z h0 q_1 q_2 q_3 q_4 q_5 0 (-1) (nI 720) (nI 0) (nI 0) (nI 0) (nI 0) (fun _ => 0) 5 ) gX5_init_X5_coverWith rfl rfl rfl 1 (by decide +kernel) (by decide) (by decide) (q0 := 0) rfl rfl rfl [0, 1] [2, 3, 4, 5, 6, 7, 8] rfl (by decide) rfl (by decide) (by decide) rfl rfl (Nat.le_of_ble_eq_true rfl) dX5_init_86 (fun r_11 w_12 hp => ?_)
  obtain ⟨rfl, rfl⟩ := hp
  refine g_eq (st' := []) (ws' := [(q_2, .inl (tyI D, 4, .inl (nf (fun _ => 0)))), (q_3, .inl (tyI D, 4, .inl (nf (fun _ => 0)))), (q_4, .inl (tyI D, 4, .inl (nf (fun _ => 0)))), (q_5, .inr (4, [.int (nI 16), .ref q0_8, .ref q1_9, .ref q2_10, .int (nI 0)])), (q0_8, .inl (tyI D, 16, .inl (nf (fun _ => 0)))), (q1_9, .inl (tyI D, 16, .inl (nf (fun _ => 0)))), (q2_10, .inl (tyI D, 16, .inl (nf (fun _ => 0)))), (h0, .inr (5, [.ref q_1, .ref q_2, .ref q_3, .int (nI 0), .ref q_4, .ref q_5, .int (-1), .int (nI 720), .int (nI 0), .int (nI 0), .int (nI 0), .int (nI 0)])), (q_1, .inl (tyI D, 144, .inl (nf (cvf (fun _ => 0) 5 144))))]) rfl rfl rfl ?_
  refine g_getsF O 8 rfl dX5_init_89 ?_
  refine g_iconst (x := (nI 0)) O dX5_init_92 (by decide +kernel) ?_
  refine g_aload_n O dX5_init_93 0 rfl rfl ?_
  refine g_get O hiX5_init_X5 7 rfl rfl 4 (by decide) (by decide +kernel) rfl dX5_init_94 ?_
  refine g_iconst (x := (nI 0)) O dX5_init_97 (by decide +kernel) ?_
  refine g_iconst (x := (nI 4)) O dX5_init_98 (by decide +kernel) ?_
  refine g_copyT (ws' := [(q_2, .inl (tyI D, 4, .inl (nf (fun _ => 0)))), (q_3, .inl (tyI D, 4, .inl (nf (fun _ => 0)))), (q_4, .inl (tyI D, 4, .inl (va_cpy zF (nf (fun _ => 0)) 0 0 4))), (q_5, .inr (4, [.int (nI 16), .ref q0_8, .ref q1_9, .ref q2_10, .int (nI 0)])), (q0_8, .inl (tyI D, 16, .inl (nf (fun _ => 0)))), (q1_9, .inl (tyI D, 16, .inl (nf (fun _ => 0)))), (q2_10, .inl (tyI D, 16, .inl (nf (fun _ => 0)))), (h0, .inr (5, [.ref q_1, .ref q_2, .ref q_3, .int (nI 0), .ref q_4, .ref q_5, .int (-1), .int (nI 720), .int (nI 0), .int (nI 0), .int (nI 0), .int (nI 0)])), (q_1, .inl (tyI D, 144, .inl (nf (cvf (fun _ => 0) 5 144))))]) O 2 rfl (by decide +kernel) (by decide +kernel) (by decide +kernel) (by decide +kernel) (by decide) (Nat.le_of_ble_eq_true rfl) dX5_init_99 rfl ?_
  refine g_perm (ws' := [(h0, .inr (5, [.ref q_1, .ref q_2, .ref q_3, .int (nI 0), .ref q_4, .ref q_5, .int (-1), .int (nI 720), .int (nI 0), .int (nI 0), .int (nI 0), .int (nI 0)])), (q_1, .inl (tyI D, 144, .inl (nf (cvf (fun _ => 0) 5 144)))), (q_2, .inl (tyI D, 4, .inl (nf (fun _ => 0)))), (q_3, .inl (tyI D, 4, .inl (nf (fun _ => 0)))), (q_4, .inl (tyI D, 4, .inl (va_cpy zF (nf (fun _ => 0)) 0 0 4))), (q_5, .inr (4, [.int (nI 16), .ref q0_8, .ref q1_9, .ref q2_10, .int (nI 0)])), (q0_8, .inl (tyI D, 16, .inl (nf (fun _ => 0)))), (q1_9, .inl (tyI D, 16, .inl (nf (fun _ => 0)))), (q2_10, .inl (tyI D, 16, .inl (nf (fun _ => 0))))]) [7, 8, 0, 1, 2, 3, 4, 5, 6] rfl (by decide) ?_
  exact E 102 _ _ dX5_init_102 (⟨_, _, _, _, _, _, _, _, rfl, rfl⟩)
