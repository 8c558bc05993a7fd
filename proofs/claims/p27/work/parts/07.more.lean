/-! the packed walk: statics, arrays of references -/
section GM
variable {X : Fx} {l : Launch} {D : va_G} {z : Nat × Nat × Nat} {cc : ByteArray} {own : String} {Ts : List Cond} {nL : Nat} {R : Room} {ini : Bool} {u v pc : Nat} {L L' : List (Nat × Value)} {st : List Value} {ws ws' : va_W} {index : Nat}
theorem g_getsF (O : Ok X l D z cc own Ts nL R ini) {host : String} (j : Nat) (hlink : NWf[j]? = some (own, index, RX8, "FIRST_SETTING", "[I", host)) (hdg : decode cc pc = .ok (.getstatic index, 3)) (kk : G X u v (pc + 3) L (.ref z.1 :: st) ws) : G X u v pc L st ws := by
  obtain ⟨p, l', e, R', s, m, args, below, meth, c, Q, nL', D', z', A⟩ := X
  obtain ⟨hx, hb, hml, hown, hts, hE, hA, hZ, hlk, rfl, rfl, rfl, rfl, rfl, hin⟩ := O
  intro ls H locs hL hP hD hS
  exact va_getsN hx hb hZ.1.1 hS hown (va_Nw.use rfl (hE.2.1 _ (List.mem_of_getElem? hlink))) (fun _ h => h) hdg (kk ls H locs hL hP hD hS)
theorem g_getsL (O : Ok X l D z cc own Ts nL R ini) (hlink : Cond.fieldLink own index RX8 "LEAST_SETTING" "[I" ∈ Ts) (hdg : decode cc pc = .ok (.getstatic index, 3)) (kk : G X u v (pc + 3) L (.ref z.2.1 :: st) ws) : G X u v pc L st ws := by
  obtain ⟨p, l', e, R', s, m, args, below, meth, c, Q, nL', D', z', A⟩ := X
  obtain ⟨hx, hb, hml, hown, hts, hE, hA, hZ, hlk, rfl, rfl, rfl, rfl, rfl, hin⟩ := O
  intro ls H locs hL hP hD hS
  exact va_gets hx hb hZ.2.1.1 hS hown (hts _ hlink) (fun _ h => h) hdg (kk ls H locs hL hP hD hS)
theorem g_getsM (O : Ok X l D z cc own Ts nL R ini) (hlink : Cond.fieldLink own index RX8 "MOST_SETTING" "[I" ∈ Ts) (hdg : decode cc pc = .ok (.getstatic index, 3)) (kk : G X u v (pc + 3) L (.ref z.2.2 :: st) ws) : G X u v pc L st ws := by
  obtain ⟨p, l', e, R', s, m, args, below, meth, c, Q, nL', D', z', A⟩ := X
  obtain ⟨hx, hb, hml, hown, hts, hE, hA, hZ, hlk, rfl, rfl, rfl, rfl, rfl, hin⟩ := O
  intro ls H locs hL hP hD hS
  exact va_gets hx hb hZ.2.2.1 hS hown (hts _ hlink) (fun _ h => h) hdg (kk ls H locs hL hP hD hS)
theorem g_saldL (O : Ok X l D z cc own Ts nL R ini) {i : Nat} (hi : i < 4) (hdg : decode cc pc = .ok (.iaload, 1)) (kk : G X u v (pc + 1) L (.int (zL i) :: st) ws) : G X u v pc L (.int (nI i) :: .ref z.2.1 :: st) ws := by
  obtain ⟨p, l', e, R', s, m, args, below, meth, c, Q, nL', D', z', A⟩ := X
  obtain ⟨hx, hb, hml, hown, hts, hE, hA, hZ, hlk, rfl, rfl, rfl, rfl, rfl, hin⟩ := O
  intro ls H locs hL hP hD hS
  exact va_ti hx hb hZ.2.1.2 hS (vp_in_nI hi (by omega)) (v := .int (zL i)) (by rw [nI_clamp (by omega)]) hdg (kk ls H locs hL hP hD hS)
theorem g_saldM (O : Ok X l D z cc own Ts nL R ini) {i : Nat} (hi : i < 4) (hdg : decode cc pc = .ok (.iaload, 1)) (kk : G X u v (pc + 1) L (.int (zM i) :: st) ws) : G X u v pc L (.int (nI i) :: .ref z.2.2 :: st) ws := by
  obtain ⟨p, l', e, R', s, m, args, below, meth, c, Q, nL', D', z', A⟩ := X
  obtain ⟨hx, hb, hml, hown, hts, hE, hA, hZ, hlk, rfl, rfl, rfl, rfl, rfl, hin⟩ := O
  intro ls H locs hL hP hD hS
  exact va_ti hx hb hZ.2.2.2 hS (vp_in_nI hi (by omega)) (v := .int (zM i)) (by rw [nI_clamp (by omega)]) hdg (kk ls H locs hL hP hD hS)
theorem g_ifnull (O : Ok X l D z cc own Ts nL R ini) {x : Nat} {off : Int} (hdg : decode cc pc = .ok (.ifnull off, 3)) (kk : G X u v (pc + 3) L st ws) : G X u v pc L (.ref x :: st) ws := by
  obtain ⟨p, l', e, R', s, m, args, below, meth, c, Q, nL', D', z', A⟩ := X
  obtain ⟨hx, hb, hml, hown, hts, hE, hA, hZ, hlk, rfl, rfl, rfl, rfl, rfl, hin⟩ := O
  intro ls H locs hL hP hD hS
  exact lv_ifnull hx hb hdg (kk ls H locs hL hP hD hS)
theorem g_aald (O : Ok X l D z cc own Ts nL R ini) {a n i : Nat} {f : Nat → Option Nat} (q0 : Nat) (ha : ws[q0]? = some (a, .inl ((TY D)[3].1, n, .inr (.inr (.inr (.inr f)))))) (hi : i < n) (hn : n < 2147483648) (hdg : decode cc pc = .ok (.aaload, 1)) (kk : G X u v (pc + 1) L (va_rf (f i) :: st) ws) : G X u v pc L (.int (nI i) :: .ref a :: st) ws := by
  obtain ⟨p, l', e, R', s, m, args, below, meth, c, Q, nL', D', z', A⟩ := X
  obtain ⟨hx, hb, hml, hown, hts, hE, hA, hZ, hlk, rfl, rfl, rfl, rfl, rfl, hin⟩ := O
  intro ls H locs hL hP hD hS
  exact va_aldq (C := RX5) hx hb hE.1 hP q0 3 ha rfl (vp_in_nI hi hn) hdg (by rw [nI_clamp (Nat.lt_trans hi hn)]; exact kk ls H locs hL hP hD hS)
theorem g_aast (O : Ok X l D z cc own Ts nL R ini) {a n i b : Nat} {vs : List Value} {f f' : Nat → Option Nat} (q0 qk : Nat) (ha : ws[q0]? = some (a, .inl ((TY D)[3].1, n, .inr (.inr (.inr (.inr f)))))) (hv : ws[qk]? = some (b, .inr (5, vs))) (hi : i < n) (hn : n < 2147483648) (hdg : decode cc pc = .ok (.aastore, 1)) (hf : va_up f i (some b) = f') (hw : ws.set q0 (a, .inl ((TY D)[3].1, n, .inr (.inr (.inr (.inr f'))))) = ws') (kk : G X u v (pc + 1) L st ws') : G X u v pc L (.ref b :: .int (nI i) :: .ref a :: st) ws := by
  obtain ⟨p, l', e, R', s, m, args, below, meth, c, Q, nL', D', z', A⟩ := X
  obtain ⟨hx, hb, hml, hown, hts, hE, hA, hZ, hlk, rfl, rfl, rfl, rfl, rfl, hin⟩ := O
  intro ls H locs hL hP hD hS
  subst hw
  subst hf
  refine va_astq (r := (RX5, TX5, 12)) hx hb hE.1 hP hD hS q0 3 qk 5 ha rfl hv rfl (vp_in_nI hi hn) hdg ?_
  rw [nI_clamp (Nat.lt_trans hi hn)]
  exact fun H1 locs1 hP1 hD1 hS1 => kk ls H1 locs1 hL hP1 hD1 hS1
theorem TY_obj {D : va_G} {s : State} {cA : ClassId} (hK : va_K D vwCl (TY D ++ [(cA, .object RX5)]) s) : cA = (TY D)[3].1 := by
  obtain ⟨_, _, -, -, -, h1⟩ := (hK.2 4 (cA, .object RX5) rfl).2
  obtain ⟨_, _, -, -, -, h2⟩ := (hK.2 3 ((TY D)[3].1, .object RX5) rfl).2
  exact Option.some.inj (h1.symm.trans h2)
theorem g_anew (O : Ok X l D z cc own Ts nL R ini) {n : Int32} {N : Nat} (hcl : Cond.classLink own index RX5 ∈ Ts) (hao : Cond.arrayOver (.object RX5) ∈ Ts) (hn : ¬ n < 0) (hN : n.toNatClampNeg = N) (hbytes : N * 4 ≤ 536870912) (hcells : u + 1 ≤ R.cells) (hslots : v + N ≤ R.slots) (hdg : decode cc pc = .ok (.anewarray index, 3)) (kk : ∀ q : Nat, G X (u + 1) (v + N) (pc + 3) L (.ref q :: st) (ws ++ [(q, .inl ((TY D)[3].1, N, .inr (.inr (.inr (.inr (fun _ => none))))))])) : G X u v pc L (.int n :: st) ws := by
  obtain ⟨p, l', e, R', s, m, args, below, meth, c, Q, nL', D', z', A⟩ := X
  obtain ⟨hx, hb, hml, hown, hts, hE, hA, hZ, hlk, rfl, rfl, rfl, rfl, rfl, hin⟩ := O
  intro ls H locs hL hP hD hS
  refine va_newq hx hb hown (hts _ hcl) (va_AO.of (hts _ hao)) hE.1 hP hD hS hA hn hN hbytes hcells hslots hdg (fun q cA H1 hK1 hP1 hD1 hS1 => ?_)
  have hc := TY_obj hK1
  subst hc
  exact kk q ls H1 locs hL hP1 hD1 hS1
/-- the first settings into a row of four -/
theorem g_copyT (O : Ok X l D z cc own Ts nL R ini) {a : Nat} {g : Nat → Int32} (q1 : Nat) (ha1 : ws[q1]? = some (a, .inl ((TY D)[0].1, 4, .inl g))) (hl : Cond.methodLink own index arraycopyName ∈ Ts) (hnat : Cond.native arraycopyName ∈ Ts) (hs : Cond.static arraycopyName ∈ Ts) (hi : Cond.initialized "java/lang/System" ∈ Ts) (hR : 1 ≤ R.frames) (hR2 : (st.map fun v => v.category).sum + (nativeFrameWords "java/lang/System" "arraycopy" 5 + 11) ≤ R.locals) (hdg : decode cc pc = .ok (.invokestatic index, 3)) (hw : ws.set q1 (a, .inl ((TY D)[0].1, 4, .inl (va_cpy zF g 0 0 4))) = ws')
    (kk : G X u v (pc + 3) L st ws') : G X u v pc L (.int (nI 4) :: .int (nI 0) :: .ref a :: .int (nI 0) :: .ref z.1 :: st) ws := by
  obtain ⟨p, l', e, R', s, m, args, below, meth, c, Q, nL', D', z', A⟩ := X
  obtain ⟨hx, hb, hml, hown, hts, hE, hA, hZ, hlk, rfl, rfl, rfl, rfl, rfl, hin⟩ := O
  intro ls H locs hL hP hD hS
  subst hw
  have hn0 : (nI 0).toInt = 0 := by decide +kernel
  have hn4 : (nI 4).toInt = 4 := by decide +kernel
  have c0 : (nI 0).toNatClampNeg = 0 := by decide +kernel
  have c4 : (nI 4).toNatClampNeg = 4 := by decide +kernel
  intro T hT XS
  obtain ⟨scr, hs1, hs2, hs3, hs4, -, hs5, hs7⟩ := hZ.1.2
  have hc0 : H[z'.1]? = some scr := by rw [hS.2.1 z'.1 (Array.getElem?_eq_some_iff.mp hs1).1 hs7]; exact hs1
  have hc1 : H[a]? = some (vp_cell (TY D')[0].1 (4, .inl g)) := hP q1 _ ha1
  obtain ⟨hs6, k0, hk0, cm0, hkk0⟩ := hs2
  obtain ⟨-, k1, hk1, cm1, hkk1⟩ := (hE.1.2 0 ((TY D')[0].1, .int) rfl).1 4 (fun j => .int (g j))
  obtain ⟨vm', X', step⟩ := XS.arraycopy hx hown (hts _ hl) (hts _ hnat) (hts _ hs) (hts _ hi) (src := z'.1) (dst := a) (cs := scr) (cd := vp_cell (TY D')[0].1 (4, .inl g)) (srcPos := nI 0) (destPos := nI 0) (n := nI 4) (by rw [hT]; exact hc0) (by rw [hT]; exact hc1)
    hs6 (fun _ h => by cases h) hs3 (fun h => by cases h) hk0 hk1 hkk0 hkk1 (by simp [refKind]) (by decide +kernel) (by decide +kernel) (by decide +kernel)
    (by rw [hn0, hn4]; omega)
    (by rw [hn0, hn4]; show ¬ _ > ((arrV _ 4 (fun j => .int (g j))).slots.size : Int); rw [arrV_size]; omega)
    (fun vm₁ _ i hi => by
      have e : scr.slots.getD ((nI 0).toNatClampNeg + i) .null = .int (zF ((nI 0).toNatClampNeg + i)) := by
        rw [c4] at hi
        rw [Array.getD_eq_getD_getElem?, hs5 _ (by rw [c0]; omega)]
        rfl
      refine ⟨?_, ?_⟩
      · rw [e]; rfl
      · rw [e]; exact trivial)
    (g := F0 m pc ls (.int (nI 4) :: .int (nI 0) :: .ref a :: .int (nI 0) :: .ref z'.1 :: st)) rfl (by rw [hml]; exact hL.1) (rest := st) rfl (by rw [hb]; exact hdg) hR (by show 2 * 0 + _ + _ ≤ _; omega)
  have e1 : copied scr (vp_cell (TY D')[0].1 (4, .inl g)) (nI 0) (nI 0) (nI 4) = vp_cell (TY D')[0].1 (4, .inl (va_cpy zF g 0 0 4)) := by
    have h := va_copiedX (sp := (nI 0).toNatClampNeg) (dp := (nI 0).toNatClampNeg) (n := (nI 4).toNatClampNeg) (n1 := 4) (fun w => Value.int w) scr (TY D')[0].1 zF g hs5 (by rw [c0, c4]; omega)
    rw [c0, c4] at h
    exact h
  rw [e1] at X' step
  have hlt : a < H.size := (Array.getElem?_eq_some_iff.mp hc1).1
  generalize hcv : vp_cell (TY D')[0].1 (4, .inl (va_cpy zF g 0 0 4)) = cv at X' step
  have hheap : ((T.setVm vm').setCell a cv).heap = H.setIfInBounds a cv := by rw [← hT]; rfl
  have oq : ∀ q : Nat, q ≠ a → (H.setIfInBounds a cv)[q]? = H[q]? := fun q hq => by simp [Array.getElem?_setIfInBounds, Ne.symm hq]
  obtain ⟨t, a1, b1⟩ := kk ls _ _ hL (hP.set hD ha1 (show (H.setIfInBounds a cv)[a]? = some _ by rw [← hcv]; simp [Array.getElem?_setIfInBounds, hlt]) oq) (hD.set ha1) ⟨by simp; exact hS.1, fun q g1 g2 => by
      rw [oq q (fun e => g2 (by rw [e]; exact hD.2 q1 _ ha1))]
      exact hS.2.1 q g1 g2, fun q hq => by
      rcases List.mem_append.mp hq with h | h
      · exact hS.2.2 q h
      · obtain ⟨w, -, hw⟩ := List.mem_map.mp h
        rw [← hw]
        exact hD.2 q1 _ ha1⟩ _ hheap X'
  exact ⟨t, step t a1, b1⟩
end GM
