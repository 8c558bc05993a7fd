/-! the law: its script, its calls -/
def SX (X : Fx) (bb L : Nat) (xs : Nat → Int32) : Prop := match X with
  | (_, _, _, _, s, _, _, _, _, _, _, _, _, _, A) => va_X bb L xs s s.heap ∧ bb < s.heap.size ∧ ¬ A bb
section GL
variable {X : Fx} {l : Launch} {D : va_G} {z : Nat × Nat × Nat} {cc : ByteArray} {own : String} {Ts : List Cond} {nL : Nat} {R : Room} {ini : Bool} {u v pc : Nat} {L : List (Nat × Value)} {st stk : List Value} {ws : va_W} {y : MethodName} {wsy wsy' : List Cond} {rm : Room} {b : Nat} {As : List Value} {post : Option Value → va_W → Prop} {maxL index : Nat} {bytes : ByteArray} {ret : Option FieldType}
theorem g_sld (O : Ok X l D z cc own Ts nL R ini) {bb K : Nat} {xs : Nat → Int32} (S : SX X bb K xs) {i : Nat} (hi : i < K) (hK : K < 2147483648) (hdg : decode cc pc = .ok (.iaload, 1)) (kk : G X u v (pc + 1) L (.int (xs i) :: st) ws) : G X u v pc L (.int (nI i) :: .ref bb :: st) ws := by
  obtain ⟨p, l', e, R', s, m, args, below, meth, c, Q, nL', D', z', A⟩ := X
  obtain ⟨hx, hb, hml, hown, hts, hE, hA, hZ, hlk, rfl, rfl, rfl, rfl, rfl, hin⟩ := O
  obtain ⟨h1, h2, h3⟩ := S
  intro ls H locs hL hP hD hS
  exact va_sld hx hb h1 h2 h3 hS (vp_in_nI hi hK) hdg (by rw [nI_clamp (Nat.lt_trans hi hK)]; exact kk ls H locs hL hP hD hS)
theorem g_slen (O : Ok X l D z cc own Ts nL R ini) {bb K : Nat} {xs : Nat → Int32} (S : SX X bb K xs) (hdg : decode cc pc = .ok (.arraylength, 1)) (kk : G X u v (pc + 1) L (.int (nI K) :: st) ws) : G X u v pc L (.ref bb :: st) ws := by
  obtain ⟨p, l', e, R', s, m, args, below, meth, c, Q, nL', D', z', A⟩ := X
  obtain ⟨hx, hb, hml, hown, hts, hE, hA, hZ, hlk, rfl, rfl, rfl, rfl, rfl, hin⟩ := O
  obtain ⟨h1, h2, h3⟩ := S
  intro ls H locs hL hP hD hS
  exact va_slen hx hb h1 h2 h3 hS hdg (kk ls H locs hL hP hD hS)
theorem g_callL (O : Ok X l D z cc own Ts nL R ini) {Aw Bw : va_W} (hM : CM l y wsy rm D z (.ref b :: As) Aw post 0 0) (hG : GoodIn Ts (wsV own index y.cls y wsy)) (hw : wsy = Cond.code y bytes maxL ret :: wsy') (hrc : rm.cells = 0) (hrs : rm.slots = 0) (n : Nat) (hd : y.cls ≠ "java/lang/invoke/MethodHandle" ∧ y.cls ≠ "java/lang/invoke/VarHandle" ∧ (parseMethodDescriptor y.desc).map (fun d => d.parameters.length) = some n) (hR : rm.frames + 1 ≤ R.frames ∧ 8 + (maxL + 11) + rm.locals ≤ R.locals) (hcs : u ≤ R.cells ∧ v ≤ R.slots) {ci : Nat} {rC : vw_C} {fs : List Value} (he : Aw[0]? = some (b, .inr (ci, fs))) (hc : vwCl[ci]? = some rC) (hcr : rC.1 = y.cls)
    (hAs : As.length = n) (hstk : stk = As.reverse ++ .ref b :: st) (hW : (st.map fun v => v.category).sum ≤ 8) (hdg : decode cc pc = .ok (.invokevirtual index, 3))
    (kk : ∀ (r : Option Value) (w : va_W), post r w → G X u v (pc + 3) L (r.toList ++ st) (Bw ++ w)) : G X u v pc L stk (Aw ++ Bw) := by
  have h0 : va_nd (List.range Aw.length) = true := by
    have := nd_range Aw.length 0
    rw [show (List.range Aw.length).map (fun i => 0 + i) = List.range Aw.length by simp] at this
    exact this
  refine g_callV O hM hG hw hrc hrs n hd hR ⟨by omega, by omega⟩ (q0 := 0) he hc hcr (List.range Aw.length) ((List.range Bw.length).map (fun i => Aw.length + i)) rangeL h0 rangeR (nd_range _ _) ?_ hAs hstk hW hdg kk
  intro i hi hc2
  obtain ⟨j, -, rfl⟩ := List.mem_map.mp hi
  have := List.mem_range.mp hc2
  omega
theorem g_ishr (O : Ok X l D z cc own Ts nL R ini) {x y : Int32} (hdg : decode cc pc = .ok (.ishr, 1)) (kk : G X u v (pc + 1) L (.int (x >>> (y &&& 31)) :: st) ws) : G X u v pc L (.int y :: .int x :: st) ws := by
  obtain ⟨p, l', e, R', s, m, args, below, meth, c, Q, nL', D', z', A⟩ := X
  obtain ⟨hx, hb, hml, hown, hts, hE, hA, hZ, hlk, rfl, rfl, rfl, rfl, rfl, hin⟩ := O
  intro ls H locs hL hP hD hS
  exact lv_ishr hx hb hdg (kk ls H locs hL hP hD hS)
theorem g_ldc (O : Ok X l D z cc own Ts nL R ini) {x : Int32} (hc : Cond.constant own index x ∈ Ts) (hdg : decode cc pc = .ok (.ldc index, 2)) (kk : G X u v (pc + 2) L (.int x :: st) ws) : G X u v pc L st ws := by
  obtain ⟨p, l', e, R', s, m, args, below, meth, c, Q, nL', D', z', A⟩ := X
  obtain ⟨hx, hb, hml, hown, hts, hE, hA, hZ, hlk, rfl, rfl, rfl, rfl, rfl, hin⟩ := O
  intro ls H locs hL hP hD hS
  exact lv_ldc hx hb hown (hts _ hc) hdg (kk ls H locs hL hP hD hS)
/-- a call over the whole world -/
theorem g_callW (O : Ok X l D z cc own Ts nL R ini) {Aw : va_W} (hM : CM l y wsy rm D z (.ref b :: As) Aw post 0 0) (hG : GoodIn Ts (wsV own index y.cls y wsy)) (hw : wsy = Cond.code y bytes maxL ret :: wsy') (hrc : rm.cells = 0) (hrs : rm.slots = 0) (n : Nat) (hd : y.cls ≠ "java/lang/invoke/MethodHandle" ∧ y.cls ≠ "java/lang/invoke/VarHandle" ∧ (parseMethodDescriptor y.desc).map (fun d => d.parameters.length) = some n) (hR : rm.frames + 1 ≤ R.frames ∧ 8 + (maxL + 11) + rm.locals ≤ R.locals) (hcs : u ≤ R.cells ∧ v ≤ R.slots) {ci : Nat} {rC : vw_C} {fs : List Value} (he : Aw[0]? = some (b, .inr (ci, fs))) (hc : vwCl[ci]? = some rC) (hcr : rC.1 = y.cls)
    (hAs : As.length = n) (hstk : stk = As.reverse ++ .ref b :: st) (hW : (st.map fun v => v.category).sum ≤ 8) (hdg : decode cc pc = .ok (.invokevirtual index, 3))
    (kk : ∀ (r : Option Value) (w : va_W), post r w → G X u v (pc + 3) L (r.toList ++ st) w) : G X u v pc L stk Aw := by
  have h := g_callL (Bw := []) O hM hG hw hrc hrs n hd hR hcs he hc hcr hAs hstk hW hdg kk
  rwa [List.append_nil] at h
/-- a static call over the whole world -/
theorem g_callWS (O : Ok X l D z cc own Ts nL R ini) {Aw : va_W} (hM : CM l y wsy rm D z As Aw post 0 0) (hG : GoodIn Ts (va_wsS own index y wsy)) (hw : wsy = Cond.code y bytes maxL ret :: wsy') (hrc : rm.cells = 0) (hrs : rm.slots = 0) (n : Nat) (hd : y.cls ≠ "java/lang/invoke/MethodHandle" ∧ y.cls ≠ "java/lang/invoke/VarHandle" ∧ (parseMethodDescriptor y.desc).map (fun d => d.parameters.length) = some n) (hR : rm.frames + 1 ≤ R.frames ∧ 8 + (maxL + 11) + rm.locals ≤ R.locals) (hcs : u ≤ R.cells ∧ v ≤ R.slots)
    (hAs : As.length = n) (hstk : stk = As.reverse ++ st) (hW : (st.map fun v => v.category).sum ≤ 8) (hdg : decode cc pc = .ok (.invokestatic index, 3))
    (kk : ∀ (r : Option Value) (w : va_W), post r w → G X u v (pc + 3) L (r.toList ++ st) w) : G X u v pc L stk Aw := by
  have h0 : va_nd (List.range Aw.length) = true := by
    have := nd_range Aw.length 0
    rw [show (List.range Aw.length).map (fun i => 0 + i) = List.range Aw.length by simp] at this
    exact this
  have h1 : (List.range Aw.length).map (fun i => Aw[i]?) = Aw.map some := by
    have := rangeL (A := Aw) (B := [])
    rwa [List.append_nil] at this
  exact g_callS (wr := []) O hM hG hw hrc hrs n hd hR ⟨by omega, by omega⟩ (List.range Aw.length) [] h1 h0 rfl rfl (fun i hi => absurd hi List.not_mem_nil) hAs hstk hW hdg kk
/-- a static call that needs nothing of the world -/
theorem g_callN (O : Ok X l D z cc own Ts nL R ini) {Ans : Value → Prop} (hM : CM l y wsy rm D z As [] (fun r w => (∃ x, Ans x ∧ r = some x) ∧ w = []) 0 0) (hG : GoodIn Ts (va_wsS own index y wsy)) (hw : wsy = Cond.code y bytes maxL ret :: wsy') (hrc : rm.cells = 0) (hrs : rm.slots = 0) (n : Nat) (hd : y.cls ≠ "java/lang/invoke/MethodHandle" ∧ y.cls ≠ "java/lang/invoke/VarHandle" ∧ (parseMethodDescriptor y.desc).map (fun d => d.parameters.length) = some n) (hR : rm.frames + 1 ≤ R.frames ∧ 8 + (maxL + 11) + rm.locals ≤ R.locals) (hcs : u ≤ R.cells ∧ v ≤ R.slots)
    (hAs : As.length = n) (hstk : stk = As.reverse ++ st) (hW : (st.map fun v => v.category).sum ≤ 8) (hdg : decode cc pc = .ok (.invokestatic index, 3))
    (kk : ∀ (x : Value), Ans x → G X u v (pc + 3) L (x :: st) ws) : G X u v pc L stk ws := by
  have h0 : va_nd (List.range ws.length) = true := by
    have := nd_range ws.length 0
    rw [show (List.range ws.length).map (fun i => 0 + i) = List.range ws.length by simp] at this
    exact this
  have h1 : (List.range ws.length).map (fun i => ws[i]?) = ws.map some := by
    have := rangeL (A := ws) (B := [])
    rwa [List.append_nil] at this
  refine g_callS (wr := ws) O hM hG hw hrc hrs n hd hR ⟨by omega, by omega⟩ [] (List.range ws.length) rfl rfl h1 h0 (fun i _ hi => absurd hi List.not_mem_nil) hAs hstk hW hdg (fun r w hp => ?_)
  obtain ⟨⟨x, hx, rfl⟩, rfl⟩ := hp
  rw [List.append_nil]
  exact kk x hx
end GL
/-! a contract that reads the law's script -/
def CPX (D : va_G) (z : Nat × Nat × Nat) (av : List Value) (bb K : Nat) (xs : Nat → Int32) (sz : Nat) : Array Value → State → Prop := fun v U => CP D z av [] sz v U ∧ va_X bb K xs U U.heap ∧ bb < U.heap.size
def CMX (l : Launch) (y : MethodName) (Ts : List Cond) (rm : Room) (D : va_G) (z : Nat × Nat × Nat) (av : List Value) (bb K : Nat) (xs : Nat → Int32) (post : Option Value → va_W → Prop) : Prop :=
  ∀ sz, Met l y Ts rm (CPX D z av bb K xs sz) (CQ D [] post sz) 0 0 (va_A [] sz)
theorem CPX.blind {D : va_G} {z : Nat × Nat × Nat} {av : List Value} {bb K : Nat} {xs : Nat → Int32} {sz : Nat} : FrameBlind (CPX D z av bb K xs sz) := by
  intro a U g mk h
  exact ⟨CP.blind a U g mk h.1, h.2.1.moved (u := U) (U := U.calling g mk a) (Vm.Alike.refl U.vm), h.2.2⟩
section GM
variable {X : Fx} {l : Launch} {D : va_G} {z : Nat × Nat × Nat} {cc : ByteArray} {own : String} {Ts : List Cond} {nL : Nat} {R : Room} {ini : Bool} {u v pc : Nat} {L : List (Nat × Value)} {st stk : List Value} {ws : va_W} {y : MethodName} {wsy wsy' : List Cond} {rm : Room} {b : Nat} {As : List Value} {post : Option Value → va_W → Prop} {maxL index : Nat} {bytes : ByteArray} {ret : Option FieldType}
theorem g_callX (O : Ok X l D z cc own Ts nL R ini) {bb K : Nat} {xs : Nat → Int32} (S : SX X bb K xs) {Ans : Value → Prop} (hM : CMX l y wsy rm D z As bb K xs (fun r w => (∃ x, Ans x ∧ r = some x) ∧ w = [])) (hG : GoodIn Ts (va_wsS own index y wsy)) (hw : wsy = Cond.code y bytes maxL ret :: wsy') (hrc : rm.cells = 0) (hrs : rm.slots = 0) (n : Nat) (hd : y.cls ≠ "java/lang/invoke/MethodHandle" ∧ y.cls ≠ "java/lang/invoke/VarHandle" ∧ (parseMethodDescriptor y.desc).map (fun d => d.parameters.length) = some n) (hR : rm.frames + 1 ≤ R.frames ∧ 8 + (maxL + 11) + rm.locals ≤ R.locals) (hcs : u ≤ R.cells ∧ v ≤ R.slots)
    (hAs : As.length = n) (hstk : stk = As.reverse ++ st) (hW : (st.map fun v => v.category).sum ≤ 8) (hdg : decode cc pc = .ok (.invokestatic index, 3))
    (kk : ∀ (x : Value), Ans x → G X u v (pc + 3) L (x :: st) ws) : G X u v pc L stk ws := by
  obtain ⟨p, l', e, R', s, m, args, below, meth, c, Q, nL', D', z', A⟩ := X
  obtain ⟨hx, hb, hml, hown, hts, hE, hA, hZ, hlk, rfl, rfl, rfl, rfl, rfl, hin⟩ := O
  obtain ⟨hX1, hX2, hX3⟩ := S
  intro ls H locs hL hP hD hS
  have h0 : va_nd (List.range ws.length) = true := by
    have := nd_range ws.length 0
    rw [show (List.range ws.length).map (fun i => 0 + i) = List.range ws.length by simp] at this
    exact this
  have h1 : (List.range ws.length).map (fun i => ws[i]?) = ws.map some := by
    have := rangeL (A := ws) (B := [])
    rwa [List.append_nil] at this
  have hC : ([] : List Nat).map (fun i => ws[i]?) = ([] : va_W).map some := rfl
  have hPc := hP.sub [] (fm_of hC)
  have hDc := hD.sub [] rfl hC
  have hFc := va_free hD hS hA [] hC
  have hZH := (hZ.kept hS.2.1).narrow hFc
  have run := va_runS (e := e) (below := below) (meth := meth) (locs := locs) (As := As) (rest := st) ⟨hx, hb, hml, hown, hts⟩ (hM H.size) (va_cwS n hts hG hw hrc hrs hd hR) ⟨CPX.blind, fun U hU hW => ⟨⟨rfl, by rw [hU], by rw [hU]; exact hPc, EN.warm hW hE, hDc.weaken (fun _ _ _ _ => trivial), by rw [hU]; exact hZH.moved hW.alike⟩, by rw [hU]; exact (hX1.kept (hS.2.1 bb hX2 hX3)).moved hW.alike, by rw [hU]; exact Nat.lt_of_lt_of_le hX2 hS.1⟩⟩ rfl hAs hL.1 hstk (lv_room hW) hdg hcs
  intro T hT XS
  obtain ⟨r, st₀, t, T', L2, h00, X', hLf, e1, e2, ⟨⟨r', w1, hoc, hpost, hP1, hD1⟩, hz, hk⟩, stp⟩ := run T hT XS
  cases hoc
  rw [h00] at hz hk
  obtain ⟨hP2, hD2⟩ := va_join hP hD [] (List.range ws.length) hC h1 h0 (fun i _ hi => absurd hi List.not_mem_nil) hk hFc hP1 hD1
  obtain ⟨⟨x, hx, rfl⟩, rfl⟩ := hpost
  rw [List.append_nil] at hP2 hD2
  obtain ⟨t2, a1, b1⟩ := kk x hx ls t.heap (locs ++ L2) hL hP2 hD2 ⟨Nat.le_trans hS.1 hz, fun q h1 h2 => by rw [hk q (Nat.lt_of_lt_of_le h1 hS.1) (fun g => h2 (hFc q g))]; exact hS.2.1 q h1 h2, fun q hq => by
      rcases List.mem_append.mp hq with h | h
      · exact hS.2.2 q h
      · exact hFc _ (hLf q h)⟩ T' e1 X'
  exact ⟨t2, stp t2 a1, b1⟩
theorem CMX_int {av : List Value} {bb K : Nat} {xs : Nat → Int32} {L0 : List (Nat × Value)} {Ts' : List Cond} (hy : plainName y.cls = true) (hc : y.cls = own) (hw : wsy = Cond.code y cc maxL (some .int) :: Ts') (hl0 : (lg_sl av).length ≤ maxL) (hL0 : lv_args 0 av = L0)
    (body : ∀ X : Fx, Ok X l D z cc own wsy maxL rm (y.name == "<init>") → SX X bb K xs → (∀ (pc : Nat) (L : List (Nat × Value)) (x : Int32) (ws : va_W), decode cc pc = .ok (.ireturn, 1) → post (some (.int x)) ws → G X 0 0 pc L [.int x] ws) → G X 0 0 0 L0 [] []) : CMX l y wsy rm D z av bb K xs post := by
  intro sz
  refine Met.ofW (cc := cc) (maxL := maxL) (ret := (some .int)) hy hw ?_
  intro p e s m args below meth c s₁ B hml hv
  obtain ⟨⟨rfl, hsz, hP, hE, hD0, hZ⟩, hX1, hX2⟩ := hv
  have hts := atoms_spec (ws := wsy) B.pre
  have hown : s.vm.findClass own = some m.cls := hc ▸ findClass_of_methodNamed B.named
  have hlocks := B.notSynchronized
  subst hsz
  have hD := hD0.self (sz := s.heap.size)
  have hl := lv_entry av (n := maxL) hl0
  rw [lg_entry_eq]
  rw [hL0] at hl
  refine body (p, l, e, (headSpec wsy rm).room, s, m, av.toArray, below, meth, c, MQ below (CQ D [] post s.heap.size) av.toArray s 0 0 (va_A [] s.heap.size), maxL, D, z, va_A [] s.heap.size) ⟨B.exec, B.bytes, hml, hown, hts, hE, fun q h => Or.inr h, hZ, hlocks, rfl, rfl, rfl, rfl, rfl, fun h => (name_of_methodNamed B.named B.method).1.trans (by simpa using h)⟩ ⟨hX1, hX2, ?_⟩ ?_ _ _ [] hl hP hD va_S.rf
  · rintro (⟨k, e2, he2⟩ | h2)
    · simp at he2
    · omega
  intro pc L x ws hdg hp ls H locs hL hP hD hS
  exact W.iret B.exec B.bytes B.returns (fun t ht hW => ⟨⟨_, ws, rfl, hp, by rw [ht]; exact hP, hD⟩, hS.F ht⟩) hS.2.2 hdg
end GM
theorem EN_of {s : State} {args : Array Value} (hts : ∀ w ∈ lw_tbl, w.before args s = true) : ∃ D : va_G, EN D s := by
  obtain ⟨c0, i0, k0⟩ := u_known (C := RX0) (T := TX0) (N := 5) (n := 5) hts inX0 (hts (.instantiable RX0 5) (by decide +kernel))
  obtain ⟨c1, i1, k1⟩ := u_known (C := RX1) (T := TX1) (N := 5) (n := 5) hts inX1 (hts (.instantiable RX1 5) (by decide +kernel))
  obtain ⟨c2, i2, k2⟩ := u_known (C := RX2) (T := TX2) (N := 3) (n := 3) hts inX2 (hts (.instantiable RX2 3) (by decide +kernel))
  obtain ⟨c3, i3, k3⟩ := u_known (C := RX3) (T := TX3) (N := 5) (n := 5) hts inX3 (hts (.instantiable RX3 5) (by decide +kernel))
  obtain ⟨c4, i4, k4⟩ := u_known (C := RX4) (T := TX4) (N := 5) (n := 5) hts inX4 (hts (.instantiable RX4 5) (by decide +kernel))
  obtain ⟨c5, i5, k5⟩ := u_known (C := RX5) (T := TX5) (N := 12) (n := 12) hts inX5 (hts (.instantiable RX5 12) (by decide +kernel))
  obtain ⟨c6, i6, k6⟩ := u_known (C := RX6) (T := TX6) (N := 4) (n := 4) hts inX6 (hts (.instantiable RX6 4) (by decide +kernel))
  obtain ⟨c7, i7, k7⟩ := u_known (C := RX7) (T := TX7) (N := 5) (n := 5) hts inX7 (hts (.instantiable RX7 5) (by decide +kernel))
  obtain ⟨c8, i8, k8⟩ := u_known (C := RX8) (T := TX8) (N := 9) (n := 9) hts inX8 (hts (.instantiable RX8 9) (by decide +kernel))
  obtain ⟨ci, ki, pi, f1, f2, f3⟩ := Cond.arrayClass_spec (hts (.arrayClass .int) (by decide +kernel))
  obtain ⟨cz, kz, pz, g1, g2, g3⟩ := Cond.arrayClass_spec (hts (.arrayClass .boolean) (by decide +kernel))
  obtain ⟨ch, kh, ph, h1, h2, h3⟩ := Cond.arrayClass_spec (hts (.arrayClass .char) (by decide +kernel))
  obtain ⟨po, co, ko, o1, o2, o3, o4, o5⟩ := Cond.arrayOver_spec (hts (.arrayOver (.object RX5)) (by decide +kernel))
  refine ⟨(fun k => match k with | 0 => c0 | 1 => c1 | 2 => c2 | 3 => c3 | 4 => c4 | 5 => c5 | 6 => c6 | 7 => c7 | 8 => c8 | 9 => c8 | 10 => ch | 11 => ci | 12 => cz | _ => co, fun k => match k with | 0 => i0 | 1 => i1 | 2 => i2 | 3 => i3 | 4 => i4 | 5 => i5 | 6 => i6 | 7 => i7 | _ => i8), ⟨fun k q hq => ?_, fun k q hq => ?_⟩, fun q hq => va_Nw.of rfl (hts _ (NWf_in q hq)), fun q hq => va_Nw.of rfl (hts _ (NWm_in q hq))⟩
  · match k, hq with
    | 0, hq => cases hq; exact k0
    | 1, hq => cases hq; exact k1
    | 2, hq => cases hq; exact k2
    | 3, hq => cases hq; exact k3
    | 4, hq => cases hq; exact k4
    | 5, hq => cases hq; exact k5
    | 6, hq => cases hq; exact k6
    | 7, hq => cases hq; exact k7
    | 8, hq => cases hq; exact k8
    | k + 9, hq => simp [vwCl] at hq
  · match k, hq with
    | 0, hq => cases hq; exact ⟨fun n z => ⟨(fun k h => by cases h), ki, f2, pi, f3⟩, f1⟩
    | 1, hq => cases hq; exact ⟨fun n z => ⟨(fun k h => by cases h), kz, g2, pz, g3⟩, g1⟩
    | 2, hq => cases hq; exact ⟨fun n z => ⟨(fun k h => by cases h), kh, h2, ph, h3⟩, h1⟩
    | 3, hq => cases hq; exact ⟨fun n z => ⟨(fun k h => by cases h), ko, o3, po, o4⟩, ko, po, o3, o4, o1, o5⟩
    | k + 4, hq => simp at hq
theorem ZT_of {s : State} {args : Array Value} {A : Nat → Prop} (hts : ∀ w ∈ lw_tbl, w.before args s = true) (hg : (Jvm.Cond.and given_1 narrow_1).before args s = true) (hA : ∀ a : Nat, a < s.heap.size → ¬ A a) : ∃ z, ZT z A s s.heap := by
  have hf := flat_of_before _ hg
  obtain ⟨zf_, eF, TF⟩ := va_Tof (args := args) (s := s) (tm := .static "BowedPlate" "FIRST_SETTING" "[I") (ty := .int) (N := 4) (f := fun j => .int (zF j)) (A := A) (by decide) (hf _ (by decide +kernel)) (va_eqt (hf _ (by decide +kernel))) (fun j hj => by
    rcases (show j = 0 ∨ j = 1 ∨ j = 2 ∨ j = 3 by omega) with rfl | rfl | rfl | rfl <;> exact va_eqt (hf _ (by decide +kernel))) hA
  obtain ⟨zl_, eL, TL⟩ := va_Tof (args := args) (s := s) (tm := .static "BowedPlate" "LEAST_SETTING" "[I") (ty := .int) (N := 4) (f := fun j => .int (zL j)) (A := A) (by decide) (hf _ (by decide +kernel)) (va_eqt (hf _ (by decide +kernel))) (fun j hj => by
    rcases (show j = 0 ∨ j = 1 ∨ j = 2 ∨ j = 3 by omega) with rfl | rfl | rfl | rfl <;> exact va_eqt (hf _ (by decide +kernel))) hA
  obtain ⟨zm_, eM, TM⟩ := va_Tof (args := args) (s := s) (tm := .static "BowedPlate" "MOST_SETTING" "[I") (ty := .int) (N := 4) (f := fun j => .int (zM j)) (A := A) (by decide) (hf _ (by decide +kernel)) (va_eqt (hf _ (by decide +kernel))) (fun j hj => by
    rcases (show j = 0 ∨ j = 1 ∨ j = 2 ∨ j = 3 by omega) with rfl | rfl | rfl | rfl <;> exact va_eqt (hf _ (by decide +kernel))) hA
  have hini := hts (.initialized "BowedPlate") (by decide +kernel)
  exact ⟨(zf_, zl_, zm_), ⟨va_Zref (hts (.laysStatic "BowedPlate" "FIRST_SETTING" "[I") (by decide +kernel)) hini eF hA, TF⟩, ⟨va_Zref (hts (.laysStatic "BowedPlate" "LEAST_SETTING" "[I") (by decide +kernel)) hini eL hA, TL⟩, ⟨va_Zref (hts (.laysStatic "BowedPlate" "MOST_SETTING" "[I") (by decide +kernel)) hini eM hA, TM⟩⟩
