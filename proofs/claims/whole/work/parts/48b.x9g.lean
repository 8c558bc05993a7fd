theorem hiX9_meet_X9 : ∀ w ∈ wsX90, w ∈ wsX9_meet := by intro w h; simp only [wsX9_meet, List.mem_append, List.mem_cons, h, or_true, true_or]
set_option maxHeartbeats 2000000 in
set_option maxRecDepth 100000 in
/-- all that hang together are met -/
theorem kX9_meet (l : Launch) (D : va_G) (z : Nat × Nat × Nat) (u0 : Nat) (u1 : Nat) (u2 : Nat) (u3 : Nat) (u4 : Nat) (u5 : Nat) (u6 : Nat) (u7 : Nat) (u8 : Nat) (u9 : Nat) (u10 : Nat) (u11 : Nat) (kn : Nat) (ik : Bool) (ty : Nat) (ta : Nat) (iw : Bool) (t : VT) (p : Nat) (hp : p < 144) (ho : vO t p = true) : CM l yX9_meet wsX9_meet ({ frames := 2, cells := 0, slots := 0, locals := 43 } : Room) D z [.ref u0, .int (nI p)] [(u0, .inr (9, [.ref u1, .ref u2, .ref u3, .ref u4, .ref u5, .ref u6, .int (nI kn), .ref u7, .int (bB ik), .ref u8, .int (nI ty), .ref u9, .int (nI ta), .int (bB iw), .ref u10, .ref u11])), (u10, .inl (tyZ D, 144, .inl (bf (fun q_ => !vO t q_)))), (u11, .inl (tyI D, 144, .inl (nf (vR t))))] (fun r_ w_ => r_ = none ∧ w_ = [(u0, .inr (9, [.ref u1, .ref u2, .ref u3, .ref u4, .ref u5, .ref u6, .int (nI kn), .ref u7, .int (bB ik), .ref u8, .int (nI ty), .ref u9, .int (nI ta), .int (bB iw), .ref u10, .ref u11])), (u10, .inl (tyZ D, 144, .inl (bf (fun q_ => !vO (clF t p) q_)))), (u11, .inl (tyI D, 144, .inl (nf (vR (clF t p)))))]) 0 0 := by
  refine CM_void (own := RX9) (cc := cX9_meet) (maxL := 7) (L0 := [(0, .ref u0), (1, .int (nI p))]) (by decide) rfl rfl (Nat.le_of_ble_eq_true rfl) rfl (fun X O E => ?_)
  refine g_aload_n O dX9_meet_0 0 rfl rfl ?_
  refine g_get O hiX9_meet_X9 0 rfl rfl 14 (by decide) (by decide +kernel) rfl dX9_meet_1 ?_
  refine g_iload_n O dX9_meet_4 1 rfl rfl ?_
  refine g_iconst (x := (nI 1)) O dX9_meet_5 (by decide +kernel) ?_
  refine g_zastN (f' := (bf (upf (fun q_ => !vO t q_) p true))) (ws' := [(u0, .inr (9, [.ref u1, .ref u2, .ref u3, .ref u4, .ref u5, .ref u6, .int (nI kn), .ref u7, .int (bB ik), .ref u8, .int (nI ty), .ref u9, .int (nI ta), .int (bB iw), .ref u10, .ref u11])), (u10, .inl (tyZ D, 144, .inl (bf (upf (fun q_ => !vO t q_) p true)))), (u11, .inl (tyI D, 144, .inl (nf (vR t))))]) O 1 rfl (by omega) (by omega) dX9_meet_6 (bf_updT _ _) rfl ?_
  refine g_aload_n O dX9_meet_7 0 rfl rfl ?_
  refine g_get O hiX9_meet_X9 0 rfl rfl 15 (by decide) (by decide +kernel) rfl dX9_meet_8 ?_
  refine g_iconst (x := (nI 0)) O dX9_meet_11 (by decide +kernel) ?_
  refine g_iload_n O dX9_meet_12 1 rfl rfl ?_
  refine g_iastN (f' := (nf (upf (vR t) 0 p))) (ws' := [(u0, .inr (9, [.ref u1, .ref u2, .ref u3, .ref u4, .ref u5, .ref u6, .int (nI kn), .ref u7, .int (bB ik), .ref u8, .int (nI ty), .ref u9, .int (nI ta), .int (bB iw), .ref u10, .ref u11])), (u10, .inl (tyZ D, 144, .inl (bf (upf (fun q_ => !vO t q_) p true)))), (u11, .inl (tyI D, 144, .inl (nf (upf (vR t) 0 p))))]) O 2 rfl (by omega) (by omega) dX9_meet_13 (nf_upd _ _ _) rfl ?_
  refine g_eq (ws' := [(u0, .inr (9, [.ref u1, .ref u2, .ref u3, .ref u4, .ref u5, .ref u6, .int (nI kn), .ref u7, .int (bB ik), .ref u8, .int (nI ty), .ref u9, .int (nI ta), .int (bB iw), .ref u10, .ref u11])), (u10, .inl (tyZ D, 144, .inl (bf (fun q_ => !vO (mkV (upf (vO t) p false) (upf (vR t) 0 p) 1) q_)))), (u11, .inl (tyI D, 144, .inl (nf (vR (mkV (upf (vO t) p false) (upf (vR t) 0 p) 1)))))]) rfl rfl (by rw [nv_upf]; rfl) ?_
  have hc0 := clF_0 hp ho
  have hcap0 : capV (mkV (upf (vO t) p false) (upf (vR t) 0 p) 1) := by have h1 := cntB_upf hp ho; have h2 := cntB_le (vO t) 144; show 1 + cntB (upf (vO t) p false) 144 ≤ 144; omega
  refine g_iconst (x := (nI 1)) O dX9_meet_14 (by decide +kernel) ?_
  refine g_istore_n (L' := [(0, .ref u0), (1, .int (nI p)), (2, .int (nI 1))]) O dX9_meet_15 rfl (by decide) [1, 2, 0] rfl ?_
  refine g_iconst (x := (nI 0)) O dX9_meet_16 (by decide +kernel) ?_
  refine g_istore_n (L' := [(0, .ref u0), (1, .int (nI p)), (2, .int (nI 1)), (3, .int (nI 0))]) O dX9_meet_17 rfl (by decide) [1, 2, 3, 0] rfl ?_
  have J18 : ∀ (n_ : Nat), ∀ (k_ : Nat) (t_ : VT) (hk : k_ ≤ 144) (hb : bfs (145 - k_) t_ k_ = clF t p) (hr_ : rOk t_) (hcap : capV t_), 145 - k_ < n_ → G X 0 0 18 [(0, .ref u0), (1, .int (nI p)), (2, .int (nI (vC t_))), (3, .int (nI k_))] [] [(u0, .inr (9, [.ref u1, .ref u2, .ref u3, .ref u4, .ref u5, .ref u6, .int (nI kn), .ref u7, .int (bB ik), .ref u8, .int (nI ty), .ref u9, .int (nI ta), .int (bB iw), .ref u10, .ref u11])), (u10, .inl (tyZ D, 144, .inl (bf (fun q_ => !vO t_ q_)))), (u11, .inl (tyI D, 144, .inl (nf (vR t_))))] := by
    intro n_
    induction n_ with
    | zero => intro k_ t_ hk hb hr_ hcap hm_; exact absurd hm_ (Nat.not_lt_zero _)
    | succ n_ ih_ =>
      intro k_ t_ hk hb hr_ hcap hm_
      have hvc : vC t_ ≤ 144 := by have := hcap; simp only [capV] at this; omega
      refine g_iload_n O dX9_meet_18 3 rfl rfl ?_
      refine g_iload_n O dX9_meet_19 2 rfl rfl ?_
      refine g_icmp_geN (tgt := 166) O (by omega) (by omega) dX9_meet_20 (by decide) (fun c_1 => ?_) (fun c_1 => ?_)
      ·
        have he := bfs_e (t := t_) hk (by omega)
        exact E 166 _ _ dX9_meet_166 (by rw [← hb, he]; exact ⟨rfl, rfl⟩)
      ·
        have hq144 := hr_ k_ (by omega)
        refine g_iconst (x := (nI 0)) O dX9_meet_23 (by decide +kernel) ?_
        refine g_istore (L' := [(0, .ref u0), (1, .int (nI p)), (2, .int (nI (vC t_))), (3, .int (nI k_)), (4, .int (nI 0))]) O dX9_meet_24 (by decide) [1, 2, 3, 4, 0] rfl ?_
        have J26 : ∀ (n_ : Nat), ∀ (j_ : Nat) (u_ : VT) (hj : j_ ≤ 4) (hu : u_ = vsN t_ (vR t_ k_) j_) (hur : vR u_ k_ = (vR t_ k_)) (hucap : capV u_) (hul : k_ < vC u_), 4 - j_ < n_ → G X 0 0 26 [(0, .ref u0), (1, .int (nI p)), (2, .int (nI (vC u_))), (3, .int (nI k_)), (4, .int (nI j_))] [] [(u0, .inr (9, [.ref u1, .ref u2, .ref u3, .ref u4, .ref u5, .ref u6, .int (nI kn), .ref u7, .int (bB ik), .ref u8, .int (nI ty), .ref u9, .int (nI ta), .int (bB iw), .ref u10, .ref u11])), (u10, .inl (tyZ D, 144, .inl (bf (fun q_ => !vO u_ q_)))), (u11, .inl (tyI D, 144, .inl (nf (vR u_))))] := by
          intro n_
          induction n_ with
          | zero => intro j_ u_ hj hu hur hucap hul hm_; exact absurd hm_ (Nat.not_lt_zero _)
          | succ n_ ih26 =>
            intro j_ u_ hj hu hur hucap hul hm_
            have huc : vC u_ ≤ 144 := by have := hucap; simp only [capV] at this; omega
            rcases (show j_ = 0 ∨ j_ = 1 ∨ j_ = 2 ∨ j_ = 3 ∨ j_ = 4 by omega) with rfl | rfl | rfl | rfl | rfl
            ·
              refine g_iload O dX9_meet_26 4 rfl ?_
              refine g_iconst (x := (nI 4)) O dX9_meet_28 (by decide +kernel) ?_
              refine g_icmp_geN (tgt := 160) O (by omega) (by omega) dX9_meet_29 (by decide) (fun c_2 => absurd c_2 (by decide)) (fun c_2 => ?_)
              refine g_aload_n O dX9_meet_32 0 rfl rfl ?_
              refine g_get O hiX9_meet_X9 0 rfl rfl 15 (by decide) (by decide +kernel) rfl dX9_meet_33 ?_
              refine g_iload_n O dX9_meet_36 3 rfl rfl ?_
              refine g_ialdN O 2 rfl (by omega) (by omega) dX9_meet_37 ?_
              refine g_eq (st' := [.int (nI (vR t_ k_))]) (congrArg (fun x => [Value.int (nI x)]) hur) rfl rfl ?_
              refine g_bipush (x := (nI 12)) O dX9_meet_38 (by decide +kernel) ?_
              refine g_iremN O (by omega) (by omega) (by omega) dX9_meet_40 ?_
              refine g_iload O dX9_meet_41 4 rfl ?_
              refine g_iconst (x := (nI 1)) O dX9_meet_43 (by decide +kernel) ?_
              refine g_icmp_neN (tgt := 51) O (by omega) (by omega) dX9_meet_44 (by decide) (fun c_3 => ?_) (fun c_3 => absurd c_3 (by decide))
              refine g_iload O dX9_meet_51 4 rfl ?_
              refine g_iconst (x := (nI 2)) O dX9_meet_53 (by decide +kernel) ?_
              refine g_icmp_neN (tgt := 61) O (by omega) (by omega) dX9_meet_54 (by decide) (fun c_4 => ?_) (fun c_4 => absurd c_4 (by decide))
              refine g_iconst (x := (nI 0)) O dX9_meet_61 (by decide +kernel) ?_
              refine g_iaddN O dX9_meet_62 ?_
              refine g_istore (L' := [(0, .ref u0), (1, .int (nI p)), (2, .int (nI (vC u_))), (3, .int (nI k_)), (4, .int (nI 0)), (5, .int (nI (((vR t_ k_) % 12) + 0)))]) O dX9_meet_63 (by decide) [1, 2, 3, 4, 5, 0] rfl ?_
              obtain ⟨X5, hX5⟩ : ∃ x, x = (nI (((vR t_ k_) % 12) + 0)) := ⟨_, rfl⟩
              refine g_eq (L' := [(0, .ref u0), (1, .int (nI p)), (2, .int (nI (vC u_))), (3, .int (nI k_)), (4, .int (nI 0)), (5, .int X5)]) rfl (by rw [hX5]) rfl ?_
              refine g_aload_n O dX9_meet_65 0 rfl rfl ?_
              refine g_get O hiX9_meet_X9 0 rfl rfl 15 (by decide) (by decide +kernel) rfl dX9_meet_66 ?_
              refine g_iload_n O dX9_meet_69 3 rfl rfl ?_
              refine g_ialdN O 2 rfl (by omega) (by omega) dX9_meet_70 ?_
              refine g_eq (st' := [.int (nI (vR t_ k_))]) (congrArg (fun x => [Value.int (nI x)]) hur) rfl rfl ?_
              refine g_bipush (x := (nI 12)) O dX9_meet_71 (by decide +kernel) ?_
              refine g_idivN O (by omega) (by omega) (by omega) dX9_meet_73 ?_
              refine g_iload O dX9_meet_74 4 rfl ?_
              refine g_if_neN (tgt := 83) O (by omega) dX9_meet_76 (by decide) (fun c_5 => absurd c_5 (by decide)) (fun c_5 => ?_)
              refine g_iconst (x := (-1)) O dX9_meet_79 (by decide +kernel) ?_
              refine g_goto (tgt := 94) O dX9_meet_80 (by decide) ?_
              refine g_iadd O dX9_meet_94 ?_
              refine g_istore (L' := [(0, .ref u0), (1, .int (nI p)), (2, .int (nI (vC u_))), (3, .int (nI k_)), (4, .int (nI 0)), (5, .int X5), (6, .int ((nI ((vR t_ k_) / 12)) + (-1)))]) O dX9_meet_95 (by decide) [1, 2, 3, 4, 5, 6, 0] rfl ?_
              obtain ⟨Y6, hY6⟩ : ∃ x, x = ((nI ((vR t_ k_) / 12)) + (-1)) := ⟨_, rfl⟩
              refine g_eq (L' := [(0, .ref u0), (1, .int (nI p)), (2, .int (nI (vC u_))), (3, .int (nI k_)), (4, .int (nI 0)), (5, .int X5), (6, .int Y6)]) rfl (by rw [hY6]) rfl ?_
              refine g_iload O dX9_meet_97 5 rfl ?_
              refine g_iload O dX9_meet_99 6 rfl ?_
              refine g_callS (As := [.int X5, .int Y6]) (wr := [(u0, .inr (9, [.ref u1, .ref u2, .ref u3, .ref u4, .ref u5, .ref u6, .int (nI kn), .ref u7, .int (bB ik), .ref u8, .int (nI ty), .ref u9, .int (nI ta), .int (bB iw), .ref u10, .ref u11])), (u10, .inl (tyZ D, 144, .inl (bf (fun q_ => !vO u_ q_)))), (u11, .inl (tyI D, 144, .inl (nf (vR u_))))]) O (kX9_isOn l D z X5 Y6 ) gX9_meet_X9_isOn rfl rfl rfl 2 (by decide +kernel) (by decide) (by decide) [] [0, 1, 2] rfl (by decide) rfl (by decide) (by decide) rfl rfl (Nat.le_of_ble_eq_true rfl) dX9_meet_101 (fun r_6 w_7 hp => ?_)
              obtain ⟨rfl, rfl⟩ := hp
              refine g_eq (st' := [.int (bB (rgB X5 12 && rgB Y6 12))]) (ws' := [(u0, .inr (9, [.ref u1, .ref u2, .ref u3, .ref u4, .ref u5, .ref u6, .int (nI kn), .ref u7, .int (bB ik), .ref u8, .int (nI ty), .ref u9, .int (nI ta), .int (bB iw), .ref u10, .ref u11])), (u10, .inl (tyZ D, 144, .inl (bf (fun q_ => !vO u_ q_)))), (u11, .inl (tyI D, 144, .inl (nf (vR u_))))]) rfl rfl rfl ?_
              refine g_if_eqB (tgt := 154) O dX9_meet_104 (by decide) (fun c_8 => ?_) (fun c_8 => ?_)
              ·
                have hnb : nbP (vR t_ k_) 0 = rchP X5 Y6 := by rw [hX5, hY6]; simp only [nbP, m1_e, nI_add, Nat.add_zero]
                have hq : visit (nbP (vR t_ k_) 0) u_ = u_ := by rw [hnb, rchP_n c_8]; rfl
                refine g_eq (L' := [(0, .ref u0), (1, .int (nI p)), (2, .int (nI (vC (visit (nbP (vR t_ k_) 0) u_)))), (3, .int (nI k_)), (4, .int (nI 0)), (5, .int X5), (6, .int Y6)]) (ws' := [(u0, .inr (9, [.ref u1, .ref u2, .ref u3, .ref u4, .ref u5, .ref u6, .int (nI kn), .ref u7, .int (bB ik), .ref u8, .int (nI ty), .ref u9, .int (nI ta), .int (bB iw), .ref u10, .ref u11])), (u10, .inl (tyZ D, 144, .inl (bf (fun q_ => !vO (visit (nbP (vR t_ k_) 0) u_) q_)))), (u11, .inl (tyI D, 144, .inl (nf (vR (visit (nbP (vR t_ k_) 0) u_)))))]) rfl (by rw [hq] <;> rfl) (by rw [hq] <;> first | rfl | (rw [nv_upf]; rfl)) ?_
                refine g_iincN (L' := [(0, .ref u0), (1, .int (nI p)), (2, .int (nI (vC (visit (nbP (vR t_ k_) 0) u_)))), (3, .int (nI k_)), (4, .int (nI (0 + 1))), (5, .int X5), (6, .int Y6)]) O dX9_meet_154 4 rfl (by decide) [1, 2, 3, 4, 0, 5, 6] rfl ?_
                refine g_goto (tgt := 26) O dX9_meet_157 (by decide) ?_
                refine g_locals (L' := [(0, .ref u0), (1, .int (nI p)), (2, .int (nI (vC (visit (nbP (vR t_ k_) 0) u_)))), (3, .int (nI k_)), (4, .int (nI (0 + 1)))]) [0, 1, 2, 3, 4] rfl ?_
                exact ih26 1 (visit (nbP (vR t_ k_) 0) u_) (by omega) (by rw [hu]; rfl) (by rw [visit_r hul]; exact hur) (cap_visit (fun _ h => nbP_lt h) hucap) (Nat.lt_of_lt_of_le hul visit_cle) (by omega)
              ·
                have hnb : nbP (vR t_ k_) 0 = rchP X5 Y6 := by rw [hX5, hY6]; simp only [nbP, m1_e, nI_add, Nat.add_zero]
                rw [Bool.and_eq_true] at c_8
                obtain ⟨⟨a_, ha, hXa⟩, ⟨d_, hd, hYd⟩⟩ := And.intro ((rgB_iff (by decide)).mp c_8.1) ((rgB_iff (by decide)).mp c_8.2)
                have hr : nbP (vR t_ k_) 0 = some (12 * d_ + a_) := by rw [hnb, hXa, hYd, rchP_s ha hd, show d_ * 12 + a_ = 12 * d_ + a_ by omega]
                refine g_eq (L' := [(0, .ref u0), (1, .int (nI p)), (2, .int (nI (vC u_))), (3, .int (nI k_)), (4, .int (nI 0)), (5, .int (nI a_)), (6, .int (nI d_))]) rfl (by rw [hXa, hYd]) rfl ?_
                refine g_aload_n O dX9_meet_107 0 rfl rfl ?_
                refine g_get O hiX9_meet_X9 0 rfl rfl 14 (by decide) (by decide +kernel) rfl dX9_meet_108 ?_
                refine g_bipush (x := (nI 12)) O dX9_meet_111 (by decide +kernel) ?_
                refine g_iload O dX9_meet_113 6 rfl ?_
                refine g_imulN O dX9_meet_115 ?_
                refine g_iload O dX9_meet_116 5 rfl ?_
                refine g_iaddN O dX9_meet_118 ?_
                refine g_zaldN O 1 rfl (by omega) (by omega) dX9_meet_119 ?_
                refine g_if_neB (tgt := 154) O dX9_meet_120 (by decide) (fun c_9 => ?_) (fun c_9 => ?_)
                ·
                  have hq : visit (nbP (vR t_ k_) 0) u_ = u_ := by rw [hr]; exact visit_f (by simpa using c_9)
                  refine g_eq (L' := [(0, .ref u0), (1, .int (nI p)), (2, .int (nI (vC (visit (nbP (vR t_ k_) 0) u_)))), (3, .int (nI k_)), (4, .int (nI 0)), (5, .int (nI a_)), (6, .int (nI d_))]) (ws' := [(u0, .inr (9, [.ref u1, .ref u2, .ref u3, .ref u4, .ref u5, .ref u6, .int (nI kn), .ref u7, .int (bB ik), .ref u8, .int (nI ty), .ref u9, .int (nI ta), .int (bB iw), .ref u10, .ref u11])), (u10, .inl (tyZ D, 144, .inl (bf (fun q_ => !vO (visit (nbP (vR t_ k_) 0) u_) q_)))), (u11, .inl (tyI D, 144, .inl (nf (vR (visit (nbP (vR t_ k_) 0) u_)))))]) rfl (by rw [hq] <;> rfl) (by rw [hq] <;> first | rfl | (rw [nv_upf]; rfl)) ?_
                  refine g_iincN (L' := [(0, .ref u0), (1, .int (nI p)), (2, .int (nI (vC (visit (nbP (vR t_ k_) 0) u_)))), (3, .int (nI k_)), (4, .int (nI (0 + 1))), (5, .int (nI a_)), (6, .int (nI d_))]) O dX9_meet_154 4 rfl (by decide) [1, 2, 3, 4, 0, 5, 6] rfl ?_
                  refine g_goto (tgt := 26) O dX9_meet_157 (by decide) ?_
                  refine g_locals (L' := [(0, .ref u0), (1, .int (nI p)), (2, .int (nI (vC (visit (nbP (vR t_ k_) 0) u_)))), (3, .int (nI k_)), (4, .int (nI (0 + 1)))]) [0, 1, 2, 3, 4] rfl ?_
                  exact ih26 1 (visit (nbP (vR t_ k_) 0) u_) (by omega) (by rw [hu]; rfl) (by rw [visit_r hul]; exact hur) (cap_visit (fun _ h => nbP_lt h) hucap) (Nat.lt_of_lt_of_le hul visit_cle) (by omega)
                ·
                  have hop : vO u_ (12 * d_ + a_) = true := by simpa using c_9
                  have hlt := cap_lt hucap (by omega) hop
                  have hq : visit (nbP (vR t_ k_) 0) u_ = mkV (upf (vO u_) (12 * d_ + a_) false) (upf (vR u_) (vC u_) (12 * d_ + a_)) (vC u_ + 1) := by rw [hr]; exact visit_t hop hlt
                  refine g_aload_n O dX9_meet_123 0 rfl rfl ?_
                  refine g_get O hiX9_meet_X9 0 rfl rfl 14 (by decide) (by decide +kernel) rfl dX9_meet_124 ?_
                  refine g_bipush (x := (nI 12)) O dX9_meet_127 (by decide +kernel) ?_
                  refine g_iload O dX9_meet_129 6 rfl ?_
                  refine g_imulN O dX9_meet_131 ?_
                  refine g_iload O dX9_meet_132 5 rfl ?_
                  refine g_iaddN O dX9_meet_134 ?_
                  refine g_iconst (x := (nI 1)) O dX9_meet_135 (by decide +kernel) ?_
                  refine g_zastN (f' := (bf (upf (fun q_ => !vO u_ q_) ((12 * d_) + a_) true))) (ws' := [(u0, .inr (9, [.ref u1, .ref u2, .ref u3, .ref u4, .ref u5, .ref u6, .int (nI kn), .ref u7, .int (bB ik), .ref u8, .int (nI ty), .ref u9, .int (nI ta), .int (bB iw), .ref u10, .ref u11])), (u10, .inl (tyZ D, 144, .inl (bf (upf (fun q_ => !vO u_ q_) ((12 * d_) + a_) true)))), (u11, .inl (tyI D, 144, .inl (nf (vR u_))))]) O 1 rfl (by omega) (by omega) dX9_meet_136 (bf_updT _ _) rfl ?_
                  refine g_aload_n O dX9_meet_137 0 rfl rfl ?_
                  refine g_get O hiX9_meet_X9 0 rfl rfl 15 (by decide) (by decide +kernel) rfl dX9_meet_138 ?_
                  refine g_iload_n O dX9_meet_141 2 rfl rfl ?_
                  refine g_bipush (x := (nI 12)) O dX9_meet_142 (by decide +kernel) ?_
                  refine g_iload O dX9_meet_144 6 rfl ?_
                  refine g_imulN O dX9_meet_146 ?_
                  refine g_iload O dX9_meet_147 5 rfl ?_
                  refine g_iaddN O dX9_meet_149 ?_
                  refine g_iastN (f' := (nf (upf (vR u_) (vC u_) ((12 * d_) + a_)))) (ws' := [(u0, .inr (9, [.ref u1, .ref u2, .ref u3, .ref u4, .ref u5, .ref u6, .int (nI kn), .ref u7, .int (bB ik), .ref u8, .int (nI ty), .ref u9, .int (nI ta), .int (bB iw), .ref u10, .ref u11])), (u10, .inl (tyZ D, 144, .inl (bf (upf (fun q_ => !vO u_ q_) ((12 * d_) + a_) true)))), (u11, .inl (tyI D, 144, .inl (nf (upf (vR u_) (vC u_) ((12 * d_) + a_)))))]) O 2 rfl (by omega) (by omega) dX9_meet_150 (nf_upd _ _ _) rfl ?_
                  refine g_iincN (L' := [(0, .ref u0), (1, .int (nI p)), (2, .int (nI ((vC u_) + 1))), (3, .int (nI k_)), (4, .int (nI 0)), (5, .int (nI a_)), (6, .int (nI d_))]) O dX9_meet_151 2 rfl (by decide) [1, 2, 0, 3, 4, 5, 6] rfl ?_
                  refine g_eq (L' := [(0, .ref u0), (1, .int (nI p)), (2, .int (nI (vC (visit (nbP (vR t_ k_) 0) u_)))), (3, .int (nI k_)), (4, .int (nI 0)), (5, .int (nI a_)), (6, .int (nI d_))]) (ws' := [(u0, .inr (9, [.ref u1, .ref u2, .ref u3, .ref u4, .ref u5, .ref u6, .int (nI kn), .ref u7, .int (bB ik), .ref u8, .int (nI ty), .ref u9, .int (nI ta), .int (bB iw), .ref u10, .ref u11])), (u10, .inl (tyZ D, 144, .inl (bf (fun q_ => !vO (visit (nbP (vR t_ k_) 0) u_) q_)))), (u11, .inl (tyI D, 144, .inl (nf (vR (visit (nbP (vR t_ k_) 0) u_)))))]) rfl (by rw [hq] <;> rfl) (by rw [hq] <;> first | rfl | (rw [nv_upf]; rfl)) ?_
                  refine g_iincN (L' := [(0, .ref u0), (1, .int (nI p)), (2, .int (nI (vC (visit (nbP (vR t_ k_) 0) u_)))), (3, .int (nI k_)), (4, .int (nI (0 + 1))), (5, .int (nI a_)), (6, .int (nI d_))]) O dX9_meet_154 4 rfl (by decide) [1, 2, 3, 4, 0, 5, 6] rfl ?_
                  refine g_goto (tgt := 26) O dX9_meet_157 (by decide) ?_
                  refine g_locals (L' := [(0, .ref u0), (1, .int (nI p)), (2, .int (nI (vC (visit (nbP (vR t_ k_) 0) u_)))), (3, .int (nI k_)), (4, .int (nI (0 + 1)))]) [0, 1, 2, 3, 4] rfl ?_
                  exact ih26 1 (visit (nbP (vR t_ k_) 0) u_) (by omega) (by rw [hu]; rfl) (by rw [visit_r hul]; exact hur) (cap_visit (fun _ h => nbP_lt h) hucap) (Nat.lt_of_lt_of_le hul visit_cle) (by omega)
            ·
              refine g_iload O dX9_meet_26 4 rfl ?_
              refine g_iconst (x := (nI 4)) O dX9_meet_28 (by decide +kernel) ?_
              refine g_icmp_geN (tgt := 160) O (by omega) (by omega) dX9_meet_29 (by decide) (fun c_10 => absurd c_10 (by decide)) (fun c_10 => ?_)
              refine g_aload_n O dX9_meet_32 0 rfl rfl ?_
              refine g_get O hiX9_meet_X9 0 rfl rfl 15 (by decide) (by decide +kernel) rfl dX9_meet_33 ?_
              refine g_iload_n O dX9_meet_36 3 rfl rfl ?_
              refine g_ialdN O 2 rfl (by omega) (by omega) dX9_meet_37 ?_
              refine g_eq (st' := [.int (nI (vR t_ k_))]) (congrArg (fun x => [Value.int (nI x)]) hur) rfl rfl ?_
              refine g_bipush (x := (nI 12)) O dX9_meet_38 (by decide +kernel) ?_
              refine g_iremN O (by omega) (by omega) (by omega) dX9_meet_40 ?_
              refine g_iload O dX9_meet_41 4 rfl ?_
              refine g_iconst (x := (nI 1)) O dX9_meet_43 (by decide +kernel) ?_
              refine g_icmp_neN (tgt := 51) O (by omega) (by omega) dX9_meet_44 (by decide) (fun c_11 => absurd c_11 (by decide)) (fun c_11 => ?_)
              refine g_iconst (x := (-1)) O dX9_meet_47 (by decide +kernel) ?_
              refine g_goto (tgt := 62) O dX9_meet_48 (by decide) ?_
              refine g_iadd O dX9_meet_62 ?_
              refine g_istore (L' := [(0, .ref u0), (1, .int (nI p)), (2, .int (nI (vC u_))), (3, .int (nI k_)), (4, .int (nI 1)), (5, .int ((nI ((vR t_ k_) % 12)) + (-1)))]) O dX9_meet_63 (by decide) [1, 2, 3, 4, 5, 0] rfl ?_
              obtain ⟨X5, hX5⟩ : ∃ x, x = ((nI ((vR t_ k_) % 12)) + (-1)) := ⟨_, rfl⟩
              refine g_eq (L' := [(0, .ref u0), (1, .int (nI p)), (2, .int (nI (vC u_))), (3, .int (nI k_)), (4, .int (nI 1)), (5, .int X5)]) rfl (by rw [hX5]) rfl ?_
              refine g_aload_n O dX9_meet_65 0 rfl rfl ?_
              refine g_get O hiX9_meet_X9 0 rfl rfl 15 (by decide) (by decide +kernel) rfl dX9_meet_66 ?_
              refine g_iload_n O dX9_meet_69 3 rfl rfl ?_
              refine g_ialdN O 2 rfl (by omega) (by omega) dX9_meet_70 ?_
              refine g_eq (st' := [.int (nI (vR t_ k_))]) (congrArg (fun x => [Value.int (nI x)]) hur) rfl rfl ?_
              refine g_bipush (x := (nI 12)) O dX9_meet_71 (by decide +kernel) ?_
              refine g_idivN O (by omega) (by omega) (by omega) dX9_meet_73 ?_
              refine g_iload O dX9_meet_74 4 rfl ?_
              refine g_if_neN (tgt := 83) O (by omega) dX9_meet_76 (by decide) (fun c_12 => ?_) (fun c_12 => absurd c_12 (by decide))
              refine g_iload O dX9_meet_83 4 rfl ?_
              refine g_iconst (x := (nI 3)) O dX9_meet_85 (by decide +kernel) ?_
              refine g_icmp_neN (tgt := 93) O (by omega) (by omega) dX9_meet_86 (by decide) (fun c_13 => ?_) (fun c_13 => absurd c_13 (by decide))
              refine g_iconst (x := (nI 0)) O dX9_meet_93 (by decide +kernel) ?_
              refine g_iaddN O dX9_meet_94 ?_
              refine g_istore (L' := [(0, .ref u0), (1, .int (nI p)), (2, .int (nI (vC u_))), (3, .int (nI k_)), (4, .int (nI 1)), (5, .int X5), (6, .int (nI (((vR t_ k_) / 12) + 0)))]) O dX9_meet_95 (by decide) [1, 2, 3, 4, 5, 6, 0] rfl ?_
              obtain ⟨Y6, hY6⟩ : ∃ x, x = (nI (((vR t_ k_) / 12) + 0)) := ⟨_, rfl⟩
              refine g_eq (L' := [(0, .ref u0), (1, .int (nI p)), (2, .int (nI (vC u_))), (3, .int (nI k_)), (4, .int (nI 1)), (5, .int X5), (6, .int Y6)]) rfl (by rw [hY6]) rfl ?_
              refine g_iload O dX9_meet_97 5 rfl ?_
              refine g_iload O dX9_meet_99 6 rfl ?_
              refine g_callS (As := [.int X5, .int Y6]) (wr := [(u0, .inr (9, [.ref u1, .ref u2, .ref u3, .ref u4, .ref u5, .ref u6, .int (nI kn), .ref u7, .int (bB ik), .ref u8, .int (nI ty), .ref u9, .int (nI ta), .int (bB iw), .ref u10, .ref u11])), (u10, .inl (tyZ D, 144, .inl (bf (fun q_ => !vO u_ q_)))), (u11, .inl (tyI D, 144, .inl (nf (vR u_))))]) O (kX9_isOn l D z X5 Y6 ) gX9_meet_X9_isOn rfl rfl rfl 2 (by decide +kernel) (by decide) (by decide) [] [0, 1, 2] rfl (by decide) rfl (by decide) (by decide) rfl rfl (Nat.le_of_ble_eq_true rfl) dX9_meet_101 (fun r_14 w_15 hp => ?_)
              obtain ⟨rfl, rfl⟩ := hp
              refine g_eq (st' := [.int (bB (rgB X5 12 && rgB Y6 12))]) (ws' := [(u0, .inr (9, [.ref u1, .ref u2, .ref u3, .ref u4, .ref u5, .ref u6, .int (nI kn), .ref u7, .int (bB ik), .ref u8, .int (nI ty), .ref u9, .int (nI ta), .int (bB iw), .ref u10, .ref u11])), (u10, .inl (tyZ D, 144, .inl (bf (fun q_ => !vO u_ q_)))), (u11, .inl (tyI D, 144, .inl (nf (vR u_))))]) rfl rfl rfl ?_
              refine g_if_eqB (tgt := 154) O dX9_meet_104 (by decide) (fun c_16 => ?_) (fun c_16 => ?_)
              ·
                have hnb : nbP (vR t_ k_) 1 = rchP X5 Y6 := by rw [hX5, hY6]; simp only [nbP, m1_e, nI_add, Nat.add_zero]
                have hq : visit (nbP (vR t_ k_) 1) u_ = u_ := by rw [hnb, rchP_n c_16]; rfl
                refine g_eq (L' := [(0, .ref u0), (1, .int (nI p)), (2, .int (nI (vC (visit (nbP (vR t_ k_) 1) u_)))), (3, .int (nI k_)), (4, .int (nI 1)), (5, .int X5), (6, .int Y6)]) (ws' := [(u0, .inr (9, [.ref u1, .ref u2, .ref u3, .ref u4, .ref u5, .ref u6, .int (nI kn), .ref u7, .int (bB ik), .ref u8, .int (nI ty), .ref u9, .int (nI ta), .int (bB iw), .ref u10, .ref u11])), (u10, .inl (tyZ D, 144, .inl (bf (fun q_ => !vO (visit (nbP (vR t_ k_) 1) u_) q_)))), (u11, .inl (tyI D, 144, .inl (nf (vR (visit (nbP (vR t_ k_) 1) u_)))))]) rfl (by rw [hq] <;> rfl) (by rw [hq] <;> first | rfl | (rw [nv_upf]; rfl)) ?_
                refine g_iincN (L' := [(0, .ref u0), (1, .int (nI p)), (2, .int (nI (vC (visit (nbP (vR t_ k_) 1) u_)))), (3, .int (nI k_)), (4, .int (nI (1 + 1))), (5, .int X5), (6, .int Y6)]) O dX9_meet_154 4 rfl (by decide) [1, 2, 3, 4, 0, 5, 6] rfl ?_
                refine g_goto (tgt := 26) O dX9_meet_157 (by decide) ?_
                refine g_locals (L' := [(0, .ref u0), (1, .int (nI p)), (2, .int (nI (vC (visit (nbP (vR t_ k_) 1) u_)))), (3, .int (nI k_)), (4, .int (nI (1 + 1)))]) [0, 1, 2, 3, 4] rfl ?_
                exact ih26 2 (visit (nbP (vR t_ k_) 1) u_) (by omega) (by rw [hu]; rfl) (by rw [visit_r hul]; exact hur) (cap_visit (fun _ h => nbP_lt h) hucap) (Nat.lt_of_lt_of_le hul visit_cle) (by omega)
              ·
                have hnb : nbP (vR t_ k_) 1 = rchP X5 Y6 := by rw [hX5, hY6]; simp only [nbP, m1_e, nI_add, Nat.add_zero]
                rw [Bool.and_eq_true] at c_16
                obtain ⟨⟨a_, ha, hXa⟩, ⟨d_, hd, hYd⟩⟩ := And.intro ((rgB_iff (by decide)).mp c_16.1) ((rgB_iff (by decide)).mp c_16.2)
                have hr : nbP (vR t_ k_) 1 = some (12 * d_ + a_) := by rw [hnb, hXa, hYd, rchP_s ha hd, show d_ * 12 + a_ = 12 * d_ + a_ by omega]
                refine g_eq (L' := [(0, .ref u0), (1, .int (nI p)), (2, .int (nI (vC u_))), (3, .int (nI k_)), (4, .int (nI 1)), (5, .int (nI a_)), (6, .int (nI d_))]) rfl (by rw [hXa, hYd]) rfl ?_
                refine g_aload_n O dX9_meet_107 0 rfl rfl ?_
                refine g_get O hiX9_meet_X9 0 rfl rfl 14 (by decide) (by decide +kernel) rfl dX9_meet_108 ?_
                refine g_bipush (x := (nI 12)) O dX9_meet_111 (by decide +kernel) ?_
                refine g_iload O dX9_meet_113 6 rfl ?_
                refine g_imulN O dX9_meet_115 ?_
                refine g_iload O dX9_meet_116 5 rfl ?_
                refine g_iaddN O dX9_meet_118 ?_
                refine g_zaldN O 1 rfl (by omega) (by omega) dX9_meet_119 ?_
                refine g_if_neB (tgt := 154) O dX9_meet_120 (by decide) (fun c_17 => ?_) (fun c_17 => ?_)
                ·
                  have hq : visit (nbP (vR t_ k_) 1) u_ = u_ := by rw [hr]; exact visit_f (by simpa using c_17)
                  refine g_eq (L' := [(0, .ref u0), (1, .int (nI p)), (2, .int (nI (vC (visit (nbP (vR t_ k_) 1) u_)))), (3, .int (nI k_)), (4, .int (nI 1)), (5, .int (nI a_)), (6, .int (nI d_))]) (ws' := [(u0, .inr (9, [.ref u1, .ref u2, .ref u3, .ref u4, .ref u5, .ref u6, .int (nI kn), .ref u7, .int (bB ik), .ref u8, .int (nI ty), .ref u9, .int (nI ta), .int (bB iw), .ref u10, .ref u11])), (u10, .inl (tyZ D, 144, .inl (bf (fun q_ => !vO (visit (nbP (vR t_ k_) 1) u_) q_)))), (u11, .inl (tyI D, 144, .inl (nf (vR (visit (nbP (vR t_ k_) 1) u_)))))]) rfl (by rw [hq] <;> rfl) (by rw [hq] <;> first | rfl | (rw [nv_upf]; rfl)) ?_
                  refine g_iincN (L' := [(0, .ref u0), (1, .int (nI p)), (2, .int (nI (vC (visit (nbP (vR t_ k_) 1) u_)))), (3, .int (nI k_)), (4, .int (nI (1 + 1))), (5, .int (nI a_)), (6, .int (nI d_))]) O dX9_meet_154 4 rfl (by decide) [1, 2, 3, 4, 0, 5, 6] rfl ?_
                  refine g_goto (tgt := 26) O dX9_meet_157 (by decide) ?_
                  refine g_locals (L' := [(0, .ref u0), (1, .int (nI p)), (2, .int (nI (vC (visit (nbP (vR t_ k_) 1) u_)))), (3, .int (nI k_)), (4, .int (nI (1 + 1)))]) [0, 1, 2, 3, 4] rfl ?_
                  exact ih26 2 (visit (nbP (vR t_ k_) 1) u_) (by omega) (by rw [hu]; rfl) (by rw [visit_r hul]; exact hur) (cap_visit (fun _ h => nbP_lt h) hucap) (Nat.lt_of_lt_of_le hul visit_cle) (by omega)
                ·
                  have hop : vO u_ (12 * d_ + a_) = true := by simpa using c_17
                  have hlt := cap_lt hucap (by omega) hop
                  have hq : visit (nbP (vR t_ k_) 1) u_ = mkV (upf (vO u_) (12 * d_ + a_) false) (upf (vR u_) (vC u_) (12 * d_ + a_)) (vC u_ + 1) := by rw [hr]; exact visit_t hop hlt
                  refine g_aload_n O dX9_meet_123 0 rfl rfl ?_
                  refine g_get O hiX9_meet_X9 0 rfl rfl 14 (by decide) (by decide +kernel) rfl dX9_meet_124 ?_
                  refine g_bipush (x := (nI 12)) O dX9_meet_127 (by decide +kernel) ?_
                  refine g_iload O dX9_meet_129 6 rfl ?_
                  refine g_imulN O dX9_meet_131 ?_
                  refine g_iload O dX9_meet_132 5 rfl ?_
                  refine g_iaddN O dX9_meet_134 ?_
                  refine g_iconst (x := (nI 1)) O dX9_meet_135 (by decide +kernel) ?_
                  refine g_zastN (f' := (bf (upf (fun q_ => !vO u_ q_) ((12 * d_) + a_) true))) (ws' := [(u0, .inr (9, [.ref u1, .ref u2, .ref u3, .ref u4, .ref u5, .ref u6, .int (nI kn), .ref u7, .int (bB ik), .ref u8, .int (nI ty), .ref u9, .int (nI ta), .int (bB iw), .ref u10, .ref u11])), (u10, .inl (tyZ D, 144, .inl (bf (upf (fun q_ => !vO u_ q_) ((12 * d_) + a_) true)))), (u11, .inl (tyI D, 144, .inl (nf (vR u_))))]) O 1 rfl (by omega) (by omega) dX9_meet_136 (bf_updT _ _) rfl ?_
                  refine g_aload_n O dX9_meet_137 0 rfl rfl ?_
                  refine g_get O hiX9_meet_X9 0 rfl rfl 15 (by decide) (by decide +kernel) rfl dX9_meet_138 ?_
                  refine g_iload_n O dX9_meet_141 2 rfl rfl ?_
                  refine g_bipush (x := (nI 12)) O dX9_meet_142 (by decide +kernel) ?_
                  refine g_iload O dX9_meet_144 6 rfl ?_
                  refine g_imulN O dX9_meet_146 ?_
                  refine g_iload O dX9_meet_147 5 rfl ?_
                  refine g_iaddN O dX9_meet_149 ?_
                  refine g_iastN (f' := (nf (upf (vR u_) (vC u_) ((12 * d_) + a_)))) (ws' := [(u0, .inr (9, [.ref u1, .ref u2, .ref u3, .ref u4, .ref u5, .ref u6, .int (nI kn), .ref u7, .int (bB ik), .ref u8, .int (nI ty), .ref u9, .int (nI ta), .int (bB iw), .ref u10, .ref u11])), (u10, .inl (tyZ D, 144, .inl (bf (upf (fun q_ => !vO u_ q_) ((12 * d_) + a_) true)))), (u11, .inl (tyI D, 144, .inl (nf (upf (vR u_) (vC u_) ((12 * d_) + a_)))))]) O 2 rfl (by omega) (by omega) dX9_meet_150 (nf_upd _ _ _) rfl ?_
                  refine g_iincN (L' := [(0, .ref u0), (1, .int (nI p)), (2, .int (nI ((vC u_) + 1))), (3, .int (nI k_)), (4, .int (nI 1)), (5, .int (nI a_)), (6, .int (nI d_))]) O dX9_meet_151 2 rfl (by decide) [1, 2, 0, 3, 4, 5, 6] rfl ?_
                  refine g_eq (L' := [(0, .ref u0), (1, .int (nI p)), (2, .int (nI (vC (visit (nbP (vR t_ k_) 1) u_)))), (3, .int (nI k_)), (4, .int (nI 1)), (5, .int (nI a_)), (6, .int (nI d_))]) (ws' := [(u0, .inr (9, [.ref u1, .ref u2, .ref u3, .ref u4, .ref u5, .ref u6, .int (nI kn), .ref u7, .int (bB ik), .ref u8, .int (nI ty), .ref u9, .int (nI ta), .int (bB iw), .ref u10, .ref u11])), (u10, .inl (tyZ D, 144, .inl (bf (fun q_ => !vO (visit (nbP (vR t_ k_) 1) u_) q_)))), (u11, .inl (tyI D, 144, .inl (nf (vR (visit (nbP (vR t_ k_) 1) u_)))))]) rfl (by rw [hq] <;> rfl) (by rw [hq] <;> first | rfl | (rw [nv_upf]; rfl)) ?_
                  refine g_iincN (L' := [(0, .ref u0), (1, .int (nI p)), (2, .int (nI (vC (visit (nbP (vR t_ k_) 1) u_)))), (3, .int (nI k_)), (4, .int (nI (1 + 1))), (5, .int (nI a_)), (6, .int (nI d_))]) O dX9_meet_154 4 rfl (by decide) [1, 2, 3, 4, 0, 5, 6] rfl ?_
                  refine g_goto (tgt := 26) O dX9_meet_157 (by decide) ?_
                  refine g_locals (L' := [(0, .ref u0), (1, .int (nI p)), (2, .int (nI (vC (visit (nbP (vR t_ k_) 1) u_)))), (3, .int (nI k_)), (4, .int (nI (1 + 1)))]) [0, 1, 2, 3, 4] rfl ?_
                  exact ih26 2 (visit (nbP (vR t_ k_) 1) u_) (by omega) (by rw [hu]; rfl) (by rw [visit_r hul]; exact hur) (cap_visit (fun _ h => nbP_lt h) hucap) (Nat.lt_of_lt_of_le hul visit_cle) (by omega)
            ·
              refine g_iload O dX9_meet_26 4 rfl ?_
              refine g_iconst (x := (nI 4)) O dX9_meet_28 (by decide +kernel) ?_
              refine g_icmp_geN (tgt := 160) O (by omega) (by omega) dX9_meet_29 (by decide) (fun c_18 => absurd c_18 (by decide)) (fun c_18 => ?_)
              refine g_aload_n O dX9_meet_32 0 rfl rfl ?_
              refine g_get O hiX9_meet_X9 0 rfl rfl 15 (by decide) (by decide +kernel) rfl dX9_meet_33 ?_
              refine g_iload_n O dX9_meet_36 3 rfl rfl ?_
              refine g_ialdN O 2 rfl (by omega) (by omega) dX9_meet_37 ?_
              refine g_eq (st' := [.int (nI (vR t_ k_))]) (congrArg (fun x => [Value.int (nI x)]) hur) rfl rfl ?_
              refine g_bipush (x := (nI 12)) O dX9_meet_38 (by decide +kernel) ?_
              refine g_iremN O (by omega) (by omega) (by omega) dX9_meet_40 ?_
              refine g_iload O dX9_meet_41 4 rfl ?_
              refine g_iconst (x := (nI 1)) O dX9_meet_43 (by decide +kernel) ?_
              refine g_icmp_neN (tgt := 51) O (by omega) (by omega) dX9_meet_44 (by decide) (fun c_19 => ?_) (fun c_19 => absurd c_19 (by decide))
              refine g_iload O dX9_meet_51 4 rfl ?_
              refine g_iconst (x := (nI 2)) O dX9_meet_53 (by decide +kernel) ?_
              refine g_icmp_neN (tgt := 61) O (by omega) (by omega) dX9_meet_54 (by decide) (fun c_20 => absurd c_20 (by decide)) (fun c_20 => ?_)
              refine g_iconst (x := (nI 1)) O dX9_meet_57 (by decide +kernel) ?_
              refine g_goto (tgt := 62) O dX9_meet_58 (by decide) ?_
              refine g_iaddN O dX9_meet_62 ?_
              refine g_istore (L' := [(0, .ref u0), (1, .int (nI p)), (2, .int (nI (vC u_))), (3, .int (nI k_)), (4, .int (nI 2)), (5, .int (nI (((vR t_ k_) % 12) + 1)))]) O dX9_meet_63 (by decide) [1, 2, 3, 4, 5, 0] rfl ?_
              obtain ⟨X5, hX5⟩ : ∃ x, x = (nI (((vR t_ k_) % 12) + 1)) := ⟨_, rfl⟩
              refine g_eq (L' := [(0, .ref u0), (1, .int (nI p)), (2, .int (nI (vC u_))), (3, .int (nI k_)), (4, .int (nI 2)), (5, .int X5)]) rfl (by rw [hX5]) rfl ?_
              refine g_aload_n O dX9_meet_65 0 rfl rfl ?_
              refine g_get O hiX9_meet_X9 0 rfl rfl 15 (by decide) (by decide +kernel) rfl dX9_meet_66 ?_
              refine g_iload_n O dX9_meet_69 3 rfl rfl ?_
              refine g_ialdN O 2 rfl (by omega) (by omega) dX9_meet_70 ?_
              refine g_eq (st' := [.int (nI (vR t_ k_))]) (congrArg (fun x => [Value.int (nI x)]) hur) rfl rfl ?_
              refine g_bipush (x := (nI 12)) O dX9_meet_71 (by decide +kernel) ?_
              refine g_idivN O (by omega) (by omega) (by omega) dX9_meet_73 ?_
              refine g_iload O dX9_meet_74 4 rfl ?_
              refine g_if_neN (tgt := 83) O (by omega) dX9_meet_76 (by decide) (fun c_21 => ?_) (fun c_21 => absurd c_21 (by decide))
              refine g_iload O dX9_meet_83 4 rfl ?_
              refine g_iconst (x := (nI 3)) O dX9_meet_85 (by decide +kernel) ?_
              refine g_icmp_neN (tgt := 93) O (by omega) (by omega) dX9_meet_86 (by decide) (fun c_22 => ?_) (fun c_22 => absurd c_22 (by decide))
              refine g_iconst (x := (nI 0)) O dX9_meet_93 (by decide +kernel) ?_
              refine g_iaddN O dX9_meet_94 ?_
              refine g_istore (L' := [(0, .ref u0), (1, .int (nI p)), (2, .int (nI (vC u_))), (3, .int (nI k_)), (4, .int (nI 2)), (5, .int X5), (6, .int (nI (((vR t_ k_) / 12) + 0)))]) O dX9_meet_95 (by decide) [1, 2, 3, 4, 5, 6, 0] rfl ?_
              obtain ⟨Y6, hY6⟩ : ∃ x, x = (nI (((vR t_ k_) / 12) + 0)) := ⟨_, rfl⟩
              refine g_eq (L' := [(0, .ref u0), (1, .int (nI p)), (2, .int (nI (vC u_))), (3, .int (nI k_)), (4, .int (nI 2)), (5, .int X5), (6, .int Y6)]) rfl (by rw [hY6]) rfl ?_
              refine g_iload O dX9_meet_97 5 rfl ?_
              refine g_iload O dX9_meet_99 6 rfl ?_
              refine g_callS (As := [.int X5, .int Y6]) (wr := [(u0, .inr (9, [.ref u1, .ref u2, .ref u3, .ref u4, .ref u5, .ref u6, .int (nI kn), .ref u7, .int (bB ik), .ref u8, .int (nI ty), .ref u9, .int (nI ta), .int (bB iw), .ref u10, .ref u11])), (u10, .inl (tyZ D, 144, .inl (bf (fun q_ => !vO u_ q_)))), (u11, .inl (tyI D, 144, .inl (nf (vR u_))))]) O (kX9_isOn l D z X5 Y6 ) gX9_meet_X9_isOn rfl rfl rfl 2 (by decide +kernel) (by decide) (by decide) [] [0, 1, 2] rfl (by decide) rfl (by decide) (by decide) rfl rfl (Nat.le_of_ble_eq_true rfl) dX9_meet_101 (fun r_23 w_24 hp => ?_)
              obtain ⟨rfl, rfl⟩ := hp
              refine g_eq (st' := [.int (bB (rgB X5 12 && rgB Y6 12))]) (ws' := [(u0, .inr (9, [.ref u1, .ref u2, .ref u3, .ref u4, .ref u5, .ref u6, .int (nI kn), .ref u7, .int (bB ik), .ref u8, .int (nI ty), .ref u9, .int (nI ta), .int (bB iw), .ref u10, .ref u11])), (u10, .inl (tyZ D, 144, .inl (bf (fun q_ => !vO u_ q_)))), (u11, .inl (tyI D, 144, .inl (nf (vR u_))))]) rfl rfl rfl ?_
              refine g_if_eqB (tgt := 154) O dX9_meet_104 (by decide) (fun c_25 => ?_) (fun c_25 => ?_)
              ·
                have hnb : nbP (vR t_ k_) 2 = rchP X5 Y6 := by rw [hX5, hY6]; simp only [nbP, m1_e, nI_add, Nat.add_zero]
                have hq : visit (nbP (vR t_ k_) 2) u_ = u_ := by rw [hnb, rchP_n c_25]; rfl
                refine g_eq (L' := [(0, .ref u0), (1, .int (nI p)), (2, .int (nI (vC (visit (nbP (vR t_ k_) 2) u_)))), (3, .int (nI k_)), (4, .int (nI 2)), (5, .int X5), (6, .int Y6)]) (ws' := [(u0, .inr (9, [.ref u1, .ref u2, .ref u3, .ref u4, .ref u5, .ref u6, .int (nI kn), .ref u7, .int (bB ik), .ref u8, .int (nI ty), .ref u9, .int (nI ta), .int (bB iw), .ref u10, .ref u11])), (u10, .inl (tyZ D, 144, .inl (bf (fun q_ => !vO (visit (nbP (vR t_ k_) 2) u_) q_)))), (u11, .inl (tyI D, 144, .inl (nf (vR (visit (nbP (vR t_ k_) 2) u_)))))]) rfl (by rw [hq] <;> rfl) (by rw [hq] <;> first | rfl | (rw [nv_upf]; rfl)) ?_
                refine g_iincN (L' := [(0, .ref u0), (1, .int (nI p)), (2, .int (nI (vC (visit (nbP (vR t_ k_) 2) u_)))), (3, .int (nI k_)), (4, .int (nI (2 + 1))), (5, .int X5), (6, .int Y6)]) O dX9_meet_154 4 rfl (by decide) [1, 2, 3, 4, 0, 5, 6] rfl ?_
                refine g_goto (tgt := 26) O dX9_meet_157 (by decide) ?_
                refine g_locals (L' := [(0, .ref u0), (1, .int (nI p)), (2, .int (nI (vC (visit (nbP (vR t_ k_) 2) u_)))), (3, .int (nI k_)), (4, .int (nI (2 + 1)))]) [0, 1, 2, 3, 4] rfl ?_
                exact ih26 3 (visit (nbP (vR t_ k_) 2) u_) (by omega) (by rw [hu]; rfl) (by rw [visit_r hul]; exact hur) (cap_visit (fun _ h => nbP_lt h) hucap) (Nat.lt_of_lt_of_le hul visit_cle) (by omega)
              ·
                have hnb : nbP (vR t_ k_) 2 = rchP X5 Y6 := by rw [hX5, hY6]; simp only [nbP, m1_e, nI_add, Nat.add_zero]
                rw [Bool.and_eq_true] at c_25
                obtain ⟨⟨a_, ha, hXa⟩, ⟨d_, hd, hYd⟩⟩ := And.intro ((rgB_iff (by decide)).mp c_25.1) ((rgB_iff (by decide)).mp c_25.2)
                have hr : nbP (vR t_ k_) 2 = some (12 * d_ + a_) := by rw [hnb, hXa, hYd, rchP_s ha hd, show d_ * 12 + a_ = 12 * d_ + a_ by omega]
                refine g_eq (L' := [(0, .ref u0), (1, .int (nI p)), (2, .int (nI (vC u_))), (3, .int (nI k_)), (4, .int (nI 2)), (5, .int (nI a_)), (6, .int (nI d_))]) rfl (by rw [hXa, hYd]) rfl ?_
                refine g_aload_n O dX9_meet_107 0 rfl rfl ?_
                refine g_get O hiX9_meet_X9 0 rfl rfl 14 (by decide) (by decide +kernel) rfl dX9_meet_108 ?_
                refine g_bipush (x := (nI 12)) O dX9_meet_111 (by decide +kernel) ?_
                refine g_iload O dX9_meet_113 6 rfl ?_
                refine g_imulN O dX9_meet_115 ?_
                refine g_iload O dX9_meet_116 5 rfl ?_
                refine g_iaddN O dX9_meet_118 ?_
                refine g_zaldN O 1 rfl (by omega) (by omega) dX9_meet_119 ?_
                refine g_if_neB (tgt := 154) O dX9_meet_120 (by decide) (fun c_26 => ?_) (fun c_26 => ?_)
                ·
                  have hq : visit (nbP (vR t_ k_) 2) u_ = u_ := by rw [hr]; exact visit_f (by simpa using c_26)
                  refine g_eq (L' := [(0, .ref u0), (1, .int (nI p)), (2, .int (nI (vC (visit (nbP (vR t_ k_) 2) u_)))), (3, .int (nI k_)), (4, .int (nI 2)), (5, .int (nI a_)), (6, .int (nI d_))]) (ws' := [(u0, .inr (9, [.ref u1, .ref u2, .ref u3, .ref u4, .ref u5, .ref u6, .int (nI kn), .ref u7, .int (bB ik), .ref u8, .int (nI ty), .ref u9, .int (nI ta), .int (bB iw), .ref u10, .ref u11])), (u10, .inl (tyZ D, 144, .inl (bf (fun q_ => !vO (visit (nbP (vR t_ k_) 2) u_) q_)))), (u11, .inl (tyI D, 144, .inl (nf (vR (visit (nbP (vR t_ k_) 2) u_)))))]) rfl (by rw [hq] <;> rfl) (by rw [hq] <;> first | rfl | (rw [nv_upf]; rfl)) ?_
                  refine g_iincN (L' := [(0, .ref u0), (1, .int (nI p)), (2, .int (nI (vC (visit (nbP (vR t_ k_) 2) u_)))), (3, .int (nI k_)), (4, .int (nI (2 + 1))), (5, .int (nI a_)), (6, .int (nI d_))]) O dX9_meet_154 4 rfl (by decide) [1, 2, 3, 4, 0, 5, 6] rfl ?_
                  refine g_goto (tgt := 26) O dX9_meet_157 (by decide) ?_
                  refine g_locals (L' := [(0, .ref u0), (1, .int (nI p)), (2, .int (nI (vC (visit (nbP (vR t_ k_) 2) u_)))), (3, .int (nI k_)), (4, .int (nI (2 + 1)))]) [0, 1, 2, 3, 4] rfl ?_
                  exact ih26 3 (visit (nbP (vR t_ k_) 2) u_) (by omega) (by rw [hu]; rfl) (by rw [visit_r hul]; exact hur) (cap_visit (fun _ h => nbP_lt h) hucap) (Nat.lt_of_lt_of_le hul visit_cle) (by omega)
                ·
                  have hop : vO u_ (12 * d_ + a_) = true := by simpa using c_26
                  have hlt := cap_lt hucap (by omega) hop
                  have hq : visit (nbP (vR t_ k_) 2) u_ = mkV (upf (vO u_) (12 * d_ + a_) false) (upf (vR u_) (vC u_) (12 * d_ + a_)) (vC u_ + 1) := by rw [hr]; exact visit_t hop hlt
                  refine g_aload_n O dX9_meet_123 0 rfl rfl ?_
                  refine g_get O hiX9_meet_X9 0 rfl rfl 14 (by decide) (by decide +kernel) rfl dX9_meet_124 ?_
                  refine g_bipush (x := (nI 12)) O dX9_meet_127 (by decide +kernel) ?_
                  refine g_iload O dX9_meet_129 6 rfl ?_
                  refine g_imulN O dX9_meet_131 ?_
                  refine g_iload O dX9_meet_132 5 rfl ?_
                  refine g_iaddN O dX9_meet_134 ?_
                  refine g_iconst (x := (nI 1)) O dX9_meet_135 (by decide +kernel) ?_
                  refine g_zastN (f' := (bf (upf (fun q_ => !vO u_ q_) ((12 * d_) + a_) true))) (ws' := [(u0, .inr (9, [.ref u1, .ref u2, .ref u3, .ref u4, .ref u5, .ref u6, .int (nI kn), .ref u7, .int (bB ik), .ref u8, .int (nI ty), .ref u9, .int (nI ta), .int (bB iw), .ref u10, .ref u11])), (u10, .inl (tyZ D, 144, .inl (bf (upf (fun q_ => !vO u_ q_) ((12 * d_) + a_) true)))), (u11, .inl (tyI D, 144, .inl (nf (vR u_))))]) O 1 rfl (by omega) (by omega) dX9_meet_136 (bf_updT _ _) rfl ?_
                  refine g_aload_n O dX9_meet_137 0 rfl rfl ?_
                  refine g_get O hiX9_meet_X9 0 rfl rfl 15 (by decide) (by decide +kernel) rfl dX9_meet_138 ?_
                  refine g_iload_n O dX9_meet_141 2 rfl rfl ?_
                  refine g_bipush (x := (nI 12)) O dX9_meet_142 (by decide +kernel) ?_
                  refine g_iload O dX9_meet_144 6 rfl ?_
                  refine g_imulN O dX9_meet_146 ?_
                  refine g_iload O dX9_meet_147 5 rfl ?_
                  refine g_iaddN O dX9_meet_149 ?_
                  refine g_iastN (f' := (nf (upf (vR u_) (vC u_) ((12 * d_) + a_)))) (ws' := [(u0, .inr (9, [.ref u1, .ref u2, .ref u3, .ref u4, .ref u5, .ref u6, .int (nI kn), .ref u7, .int (bB ik), .ref u8, .int (nI ty), .ref u9, .int (nI ta), .int (bB iw), .ref u10, .ref u11])), (u10, .inl (tyZ D, 144, .inl (bf (upf (fun q_ => !vO u_ q_) ((12 * d_) + a_) true)))), (u11, .inl (tyI D, 144, .inl (nf (upf (vR u_) (vC u_) ((12 * d_) + a_)))))]) O 2 rfl (by omega) (by omega) dX9_meet_150 (nf_upd _ _ _) rfl ?_
                  refine g_iincN (L' := [(0, .ref u0), (1, .int (nI p)), (2, .int (nI ((vC u_) + 1))), (3, .int (nI k_)), (4, .int (nI 2)), (5, .int (nI a_)), (6, .int (nI d_))]) O dX9_meet_151 2 rfl (by decide) [1, 2, 0, 3, 4, 5, 6] rfl ?_
                  refine g_eq (L' := [(0, .ref u0), (1, .int (nI p)), (2, .int (nI (vC (visit (nbP (vR t_ k_) 2) u_)))), (3, .int (nI k_)), (4, .int (nI 2)), (5, .int (nI a_)), (6, .int (nI d_))]) (ws' := [(u0, .inr (9, [.ref u1, .ref u2, .ref u3, .ref u4, .ref u5, .ref u6, .int (nI kn), .ref u7, .int (bB ik), .ref u8, .int (nI ty), .ref u9, .int (nI ta), .int (bB iw), .ref u10, .ref u11])), (u10, .inl (tyZ D, 144, .inl (bf (fun q_ => !vO (visit (nbP (vR t_ k_) 2) u_) q_)))), (u11, .inl (tyI D, 144, .inl (nf (vR (visit (nbP (vR t_ k_) 2) u_)))))]) rfl (by rw [hq] <;> rfl) (by rw [hq] <;> first | rfl | (rw [nv_upf]; rfl)) ?_
                  refine g_iincN (L' := [(0, .ref u0), (1, .int (nI p)), (2, .int (nI (vC (visit (nbP (vR t_ k_) 2) u_)))), (3, .int (nI k_)), (4, .int (nI (2 + 1))), (5, .int (nI a_)), (6, .int (nI d_))]) O dX9_meet_154 4 rfl (by decide) [1, 2, 3, 4, 0, 5, 6] rfl ?_
                  refine g_goto (tgt := 26) O dX9_meet_157 (by decide) ?_
                  refine g_locals (L' := [(0, .ref u0), (1, .int (nI p)), (2, .int (nI (vC (visit (nbP (vR t_ k_) 2) u_)))), (3, .int (nI k_)), (4, .int (nI (2 + 1)))]) [0, 1, 2, 3, 4] rfl ?_
                  exact ih26 3 (visit (nbP (vR t_ k_) 2) u_) (by omega) (by rw [hu]; rfl) (by rw [visit_r hul]; exact hur) (cap_visit (fun _ h => nbP_lt h) hucap) (Nat.lt_of_lt_of_le hul visit_cle) (by omega)
            ·
              refine g_iload O dX9_meet_26 4 rfl ?_
              refine g_iconst (x := (nI 4)) O dX9_meet_28 (by decide +kernel) ?_
              refine g_icmp_geN (tgt := 160) O (by omega) (by omega) dX9_meet_29 (by decide) (fun c_27 => absurd c_27 (by decide)) (fun c_27 => ?_)
              refine g_aload_n O dX9_meet_32 0 rfl rfl ?_
              refine g_get O hiX9_meet_X9 0 rfl rfl 15 (by decide) (by decide +kernel) rfl dX9_meet_33 ?_
              refine g_iload_n O dX9_meet_36 3 rfl rfl ?_
              refine g_ialdN O 2 rfl (by omega) (by omega) dX9_meet_37 ?_
              refine g_eq (st' := [.int (nI (vR t_ k_))]) (congrArg (fun x => [Value.int (nI x)]) hur) rfl rfl ?_
              refine g_bipush (x := (nI 12)) O dX9_meet_38 (by decide +kernel) ?_
              refine g_iremN O (by omega) (by omega) (by omega) dX9_meet_40 ?_
              refine g_iload O dX9_meet_41 4 rfl ?_
              refine g_iconst (x := (nI 1)) O dX9_meet_43 (by decide +kernel) ?_
              refine g_icmp_neN (tgt := 51) O (by omega) (by omega) dX9_meet_44 (by decide) (fun c_28 => ?_) (fun c_28 => absurd c_28 (by decide))
              refine g_iload O dX9_meet_51 4 rfl ?_
              refine g_iconst (x := (nI 2)) O dX9_meet_53 (by decide +kernel) ?_
              refine g_icmp_neN (tgt := 61) O (by omega) (by omega) dX9_meet_54 (by decide) (fun c_29 => ?_) (fun c_29 => absurd c_29 (by decide))
              refine g_iconst (x := (nI 0)) O dX9_meet_61 (by decide +kernel) ?_
              refine g_iaddN O dX9_meet_62 ?_
              refine g_istore (L' := [(0, .ref u0), (1, .int (nI p)), (2, .int (nI (vC u_))), (3, .int (nI k_)), (4, .int (nI 3)), (5, .int (nI (((vR t_ k_) % 12) + 0)))]) O dX9_meet_63 (by decide) [1, 2, 3, 4, 5, 0] rfl ?_
              obtain ⟨X5, hX5⟩ : ∃ x, x = (nI (((vR t_ k_) % 12) + 0)) := ⟨_, rfl⟩
              refine g_eq (L' := [(0, .ref u0), (1, .int (nI p)), (2, .int (nI (vC u_))), (3, .int (nI k_)), (4, .int (nI 3)), (5, .int X5)]) rfl (by rw [hX5]) rfl ?_
              refine g_aload_n O dX9_meet_65 0 rfl rfl ?_
              refine g_get O hiX9_meet_X9 0 rfl rfl 15 (by decide) (by decide +kernel) rfl dX9_meet_66 ?_
              refine g_iload_n O dX9_meet_69 3 rfl rfl ?_
              refine g_ialdN O 2 rfl (by omega) (by omega) dX9_meet_70 ?_
              refine g_eq (st' := [.int (nI (vR t_ k_))]) (congrArg (fun x => [Value.int (nI x)]) hur) rfl rfl ?_
              refine g_bipush (x := (nI 12)) O dX9_meet_71 (by decide +kernel) ?_
              refine g_idivN O (by omega) (by omega) (by omega) dX9_meet_73 ?_
              refine g_iload O dX9_meet_74 4 rfl ?_
              refine g_if_neN (tgt := 83) O (by omega) dX9_meet_76 (by decide) (fun c_30 => ?_) (fun c_30 => absurd c_30 (by decide))
              refine g_iload O dX9_meet_83 4 rfl ?_
              refine g_iconst (x := (nI 3)) O dX9_meet_85 (by decide +kernel) ?_
              refine g_icmp_neN (tgt := 93) O (by omega) (by omega) dX9_meet_86 (by decide) (fun c_31 => absurd c_31 (by decide)) (fun c_31 => ?_)
              refine g_iconst (x := (nI 1)) O dX9_meet_89 (by decide +kernel) ?_
              refine g_goto (tgt := 94) O dX9_meet_90 (by decide) ?_
              refine g_iaddN O dX9_meet_94 ?_
              refine g_istore (L' := [(0, .ref u0), (1, .int (nI p)), (2, .int (nI (vC u_))), (3, .int (nI k_)), (4, .int (nI 3)), (5, .int X5), (6, .int (nI (((vR t_ k_) / 12) + 1)))]) O dX9_meet_95 (by decide) [1, 2, 3, 4, 5, 6, 0] rfl ?_
              obtain ⟨Y6, hY6⟩ : ∃ x, x = (nI (((vR t_ k_) / 12) + 1)) := ⟨_, rfl⟩
              refine g_eq (L' := [(0, .ref u0), (1, .int (nI p)), (2, .int (nI (vC u_))), (3, .int (nI k_)), (4, .int (nI 3)), (5, .int X5), (6, .int Y6)]) rfl (by rw [hY6]) rfl ?_
              refine g_iload O dX9_meet_97 5 rfl ?_
              refine g_iload O dX9_meet_99 6 rfl ?_
              refine g_callS (As := [.int X5, .int Y6]) (wr := [(u0, .inr (9, [.ref u1, .ref u2, .ref u3, .ref u4, .ref u5, .ref u6, .int (nI kn), .ref u7, .int (bB ik), .ref u8, .int (nI ty), .ref u9, .int (nI ta), .int (bB iw), .ref u10, .ref u11])), (u10, .inl (tyZ D, 144, .inl (bf (fun q_ => !vO u_ q_)))), (u11, .inl (tyI D, 144, .inl (nf (vR u_))))]) O (kX9_isOn l D z X5 Y6 ) gX9_meet_X9_isOn rfl rfl rfl 2 (by decide +kernel) (by decide) (by decide) [] [0, 1, 2] rfl (by decide) rfl (by decide) (by decide) rfl rfl (Nat.le_of_ble_eq_true rfl) dX9_meet_101 (fun r_32 w_33 hp => ?_)
              obtain ⟨rfl, rfl⟩ := hp
              refine g_eq (st' := [.int (bB (rgB X5 12 && rgB Y6 12))]) (ws' := [(u0, .inr (9, [.ref u1, .ref u2, .ref u3, .ref u4, .ref u5, .ref u6, .int (nI kn), .ref u7, .int (bB ik), .ref u8, .int (nI ty), .ref u9, .int (nI ta), .int (bB iw), .ref u10, .ref u11])), (u10, .inl (tyZ D, 144, .inl (bf (fun q_ => !vO u_ q_)))), (u11, .inl (tyI D, 144, .inl (nf (vR u_))))]) rfl rfl rfl ?_
              refine g_if_eqB (tgt := 154) O dX9_meet_104 (by decide) (fun c_34 => ?_) (fun c_34 => ?_)
              ·
                have hnb : nbP (vR t_ k_) 3 = rchP X5 Y6 := by rw [hX5, hY6]; simp only [nbP, m1_e, nI_add, Nat.add_zero]
                have hq : visit (nbP (vR t_ k_) 3) u_ = u_ := by rw [hnb, rchP_n c_34]; rfl
                refine g_eq (L' := [(0, .ref u0), (1, .int (nI p)), (2, .int (nI (vC (visit (nbP (vR t_ k_) 3) u_)))), (3, .int (nI k_)), (4, .int (nI 3)), (5, .int X5), (6, .int Y6)]) (ws' := [(u0, .inr (9, [.ref u1, .ref u2, .ref u3, .ref u4, .ref u5, .ref u6, .int (nI kn), .ref u7, .int (bB ik), .ref u8, .int (nI ty), .ref u9, .int (nI ta), .int (bB iw), .ref u10, .ref u11])), (u10, .inl (tyZ D, 144, .inl (bf (fun q_ => !vO (visit (nbP (vR t_ k_) 3) u_) q_)))), (u11, .inl (tyI D, 144, .inl (nf (vR (visit (nbP (vR t_ k_) 3) u_)))))]) rfl (by rw [hq] <;> rfl) (by rw [hq] <;> first | rfl | (rw [nv_upf]; rfl)) ?_
                refine g_iincN (L' := [(0, .ref u0), (1, .int (nI p)), (2, .int (nI (vC (visit (nbP (vR t_ k_) 3) u_)))), (3, .int (nI k_)), (4, .int (nI (3 + 1))), (5, .int X5), (6, .int Y6)]) O dX9_meet_154 4 rfl (by decide) [1, 2, 3, 4, 0, 5, 6] rfl ?_
                refine g_goto (tgt := 26) O dX9_meet_157 (by decide) ?_
                refine g_locals (L' := [(0, .ref u0), (1, .int (nI p)), (2, .int (nI (vC (visit (nbP (vR t_ k_) 3) u_)))), (3, .int (nI k_)), (4, .int (nI (3 + 1)))]) [0, 1, 2, 3, 4] rfl ?_
                exact ih26 4 (visit (nbP (vR t_ k_) 3) u_) (by omega) (by rw [hu]; rfl) (by rw [visit_r hul]; exact hur) (cap_visit (fun _ h => nbP_lt h) hucap) (Nat.lt_of_lt_of_le hul visit_cle) (by omega)
              ·
                have hnb : nbP (vR t_ k_) 3 = rchP X5 Y6 := by rw [hX5, hY6]; simp only [nbP, m1_e, nI_add, Nat.add_zero]
                rw [Bool.and_eq_true] at c_34
                obtain ⟨⟨a_, ha, hXa⟩, ⟨d_, hd, hYd⟩⟩ := And.intro ((rgB_iff (by decide)).mp c_34.1) ((rgB_iff (by decide)).mp c_34.2)
                have hr : nbP (vR t_ k_) 3 = some (12 * d_ + a_) := by rw [hnb, hXa, hYd, rchP_s ha hd, show d_ * 12 + a_ = 12 * d_ + a_ by omega]
                refine g_eq (L' := [(0, .ref u0), (1, .int (nI p)), (2, .int (nI (vC u_))), (3, .int (nI k_)), (4, .int (nI 3)), (5, .int (nI a_)), (6, .int (nI d_))]) rfl (by rw [hXa, hYd]) rfl ?_
                refine g_aload_n O dX9_meet_107 0 rfl rfl ?_
                refine g_get O hiX9_meet_X9 0 rfl rfl 14 (by decide) (by decide +kernel) rfl dX9_meet_108 ?_
                refine g_bipush (x := (nI 12)) O dX9_meet_111 (by decide +kernel) ?_
                refine g_iload O dX9_meet_113 6 rfl ?_
                refine g_imulN O dX9_meet_115 ?_
                refine g_iload O dX9_meet_116 5 rfl ?_
                refine g_iaddN O dX9_meet_118 ?_
                refine g_zaldN O 1 rfl (by omega) (by omega) dX9_meet_119 ?_
                refine g_if_neB (tgt := 154) O dX9_meet_120 (by decide) (fun c_35 => ?_) (fun c_35 => ?_)
                ·
                  have hq : visit (nbP (vR t_ k_) 3) u_ = u_ := by rw [hr]; exact visit_f (by simpa using c_35)
                  refine g_eq (L' := [(0, .ref u0), (1, .int (nI p)), (2, .int (nI (vC (visit (nbP (vR t_ k_) 3) u_)))), (3, .int (nI k_)), (4, .int (nI 3)), (5, .int (nI a_)), (6, .int (nI d_))]) (ws' := [(u0, .inr (9, [.ref u1, .ref u2, .ref u3, .ref u4, .ref u5, .ref u6, .int (nI kn), .ref u7, .int (bB ik), .ref u8, .int (nI ty), .ref u9, .int (nI ta), .int (bB iw), .ref u10, .ref u11])), (u10, .inl (tyZ D, 144, .inl (bf (fun q_ => !vO (visit (nbP (vR t_ k_) 3) u_) q_)))), (u11, .inl (tyI D, 144, .inl (nf (vR (visit (nbP (vR t_ k_) 3) u_)))))]) rfl (by rw [hq] <;> rfl) (by rw [hq] <;> first | rfl | (rw [nv_upf]; rfl)) ?_
                  refine g_iincN (L' := [(0, .ref u0), (1, .int (nI p)), (2, .int (nI (vC (visit (nbP (vR t_ k_) 3) u_)))), (3, .int (nI k_)), (4, .int (nI (3 + 1))), (5, .int (nI a_)), (6, .int (nI d_))]) O dX9_meet_154 4 rfl (by decide) [1, 2, 3, 4, 0, 5, 6] rfl ?_
                  refine g_goto (tgt := 26) O dX9_meet_157 (by decide) ?_
                  refine g_locals (L' := [(0, .ref u0), (1, .int (nI p)), (2, .int (nI (vC (visit (nbP (vR t_ k_) 3) u_)))), (3, .int (nI k_)), (4, .int (nI (3 + 1)))]) [0, 1, 2, 3, 4] rfl ?_
                  exact ih26 4 (visit (nbP (vR t_ k_) 3) u_) (by omega) (by rw [hu]; rfl) (by rw [visit_r hul]; exact hur) (cap_visit (fun _ h => nbP_lt h) hucap) (Nat.lt_of_lt_of_le hul visit_cle) (by omega)
                ·
                  have hop : vO u_ (12 * d_ + a_) = true := by simpa using c_35
                  have hlt := cap_lt hucap (by omega) hop
                  have hq : visit (nbP (vR t_ k_) 3) u_ = mkV (upf (vO u_) (12 * d_ + a_) false) (upf (vR u_) (vC u_) (12 * d_ + a_)) (vC u_ + 1) := by rw [hr]; exact visit_t hop hlt
                  refine g_aload_n O dX9_meet_123 0 rfl rfl ?_
                  refine g_get O hiX9_meet_X9 0 rfl rfl 14 (by decide) (by decide +kernel) rfl dX9_meet_124 ?_
                  refine g_bipush (x := (nI 12)) O dX9_meet_127 (by decide +kernel) ?_
                  refine g_iload O dX9_meet_129 6 rfl ?_
                  refine g_imulN O dX9_meet_131 ?_
                  refine g_iload O dX9_meet_132 5 rfl ?_
                  refine g_iaddN O dX9_meet_134 ?_
                  refine g_iconst (x := (nI 1)) O dX9_meet_135 (by decide +kernel) ?_
                  refine g_zastN (f' := (bf (upf (fun q_ => !vO u_ q_) ((12 * d_) + a_) true))) (ws' := [(u0, .inr (9, [.ref u1, .ref u2, .ref u3, .ref u4, .ref u5, .ref u6, .int (nI kn), .ref u7, .int (bB ik), .ref u8, .int (nI ty), .ref u9, .int (nI ta), .int (bB iw), .ref u10, .ref u11])), (u10, .inl (tyZ D, 144, .inl (bf (upf (fun q_ => !vO u_ q_) ((12 * d_) + a_) true)))), (u11, .inl (tyI D, 144, .inl (nf (vR u_))))]) O 1 rfl (by omega) (by omega) dX9_meet_136 (bf_updT _ _) rfl ?_
                  refine g_aload_n O dX9_meet_137 0 rfl rfl ?_
                  refine g_get O hiX9_meet_X9 0 rfl rfl 15 (by decide) (by decide +kernel) rfl dX9_meet_138 ?_
                  refine g_iload_n O dX9_meet_141 2 rfl rfl ?_
                  refine g_bipush (x := (nI 12)) O dX9_meet_142 (by decide +kernel) ?_
                  refine g_iload O dX9_meet_144 6 rfl ?_
                  refine g_imulN O dX9_meet_146 ?_
                  refine g_iload O dX9_meet_147 5 rfl ?_
                  refine g_iaddN O dX9_meet_149 ?_
                  refine g_iastN (f' := (nf (upf (vR u_) (vC u_) ((12 * d_) + a_)))) (ws' := [(u0, .inr (9, [.ref u1, .ref u2, .ref u3, .ref u4, .ref u5, .ref u6, .int (nI kn), .ref u7, .int (bB ik), .ref u8, .int (nI ty), .ref u9, .int (nI ta), .int (bB iw), .ref u10, .ref u11])), (u10, .inl (tyZ D, 144, .inl (bf (upf (fun q_ => !vO u_ q_) ((12 * d_) + a_) true)))), (u11, .inl (tyI D, 144, .inl (nf (upf (vR u_) (vC u_) ((12 * d_) + a_)))))]) O 2 rfl (by omega) (by omega) dX9_meet_150 (nf_upd _ _ _) rfl ?_
                  refine g_iincN (L' := [(0, .ref u0), (1, .int (nI p)), (2, .int (nI ((vC u_) + 1))), (3, .int (nI k_)), (4, .int (nI 3)), (5, .int (nI a_)), (6, .int (nI d_))]) O dX9_meet_151 2 rfl (by decide) [1, 2, 0, 3, 4, 5, 6] rfl ?_
                  refine g_eq (L' := [(0, .ref u0), (1, .int (nI p)), (2, .int (nI (vC (visit (nbP (vR t_ k_) 3) u_)))), (3, .int (nI k_)), (4, .int (nI 3)), (5, .int (nI a_)), (6, .int (nI d_))]) (ws' := [(u0, .inr (9, [.ref u1, .ref u2, .ref u3, .ref u4, .ref u5, .ref u6, .int (nI kn), .ref u7, .int (bB ik), .ref u8, .int (nI ty), .ref u9, .int (nI ta), .int (bB iw), .ref u10, .ref u11])), (u10, .inl (tyZ D, 144, .inl (bf (fun q_ => !vO (visit (nbP (vR t_ k_) 3) u_) q_)))), (u11, .inl (tyI D, 144, .inl (nf (vR (visit (nbP (vR t_ k_) 3) u_)))))]) rfl (by rw [hq] <;> rfl) (by rw [hq] <;> first | rfl | (rw [nv_upf]; rfl)) ?_
                  refine g_iincN (L' := [(0, .ref u0), (1, .int (nI p)), (2, .int (nI (vC (visit (nbP (vR t_ k_) 3) u_)))), (3, .int (nI k_)), (4, .int (nI (3 + 1))), (5, .int (nI a_)), (6, .int (nI d_))]) O dX9_meet_154 4 rfl (by decide) [1, 2, 3, 4, 0, 5, 6] rfl ?_
                  refine g_goto (tgt := 26) O dX9_meet_157 (by decide) ?_
                  refine g_locals (L' := [(0, .ref u0), (1, .int (nI p)), (2, .int (nI (vC (visit (nbP (vR t_ k_) 3) u_)))), (3, .int (nI k_)), (4, .int (nI (3 + 1)))]) [0, 1, 2, 3, 4] rfl ?_
                  exact ih26 4 (visit (nbP (vR t_ k_) 3) u_) (by omega) (by rw [hu]; rfl) (by rw [visit_r hul]; exact hur) (cap_visit (fun _ h => nbP_lt h) hucap) (Nat.lt_of_lt_of_le hul visit_cle) (by omega)
            ·
              refine g_iload O dX9_meet_26 4 rfl ?_
              refine g_iconst (x := (nI 4)) O dX9_meet_28 (by decide +kernel) ?_
              refine g_icmp_geN (tgt := 160) O (by omega) (by omega) dX9_meet_29 (by decide) (fun c_36 => ?_) (fun c_36 => absurd c_36 (by decide))
              refine g_iincN (L' := [(0, .ref u0), (1, .int (nI p)), (2, .int (nI (vC u_))), (3, .int (nI (k_ + 1))), (4, .int (nI 4))]) O dX9_meet_160 3 rfl (by decide) [1, 2, 3, 0, 4] rfl ?_
              refine g_goto (tgt := 18) O dX9_meet_163 (by decide) ?_
              refine g_locals (L' := [(0, .ref u0), (1, .int (nI p)), (2, .int (nI (vC u_))), (3, .int (nI (k_ + 1)))]) [0, 1, 2, 3] rfl ?_
              exact ih_ (k_ + 1) u_ (by omega) (by rw [← hb, hu, vs4]; exact (bfs_s (by omega) (by omega)).symm) (by rw [hu, vs4]; exact vis4_ok hr_) (hucap) (by omega)
        exact J26 _ 0 t_ (Nat.zero_le _) (rfl) (rfl) (hcap) (by omega) (Nat.lt_succ_self _)
  exact J18 _ 0 (mkV (upf (vO t) p false) (upf (vR t) 0 p) 1) (Nat.zero_le _) (hc0.symm) (fun j hj => by (have hj : j < 1 := hj); obtain rfl : j = 0 := (by omega); show upf (vR t) 0 p 0 < 144; rw [upf_s]; exact hp) (hcap0) (Nat.lt_succ_self _)
