/-! the packed walk: contracts, calls, ends -/
theorem CP.blind {D : va_G} {z : Nat × Nat × Nat} {av : List Value} {win : va_W} {sz : Nat} : FrameBlind (CP D z av win sz) := by
  intro a U g mk h
  obtain ⟨h1, h2, h3, h4, h5, h6⟩ := h
  exact ⟨h1, h2, h3, h4.same rfl, h5, h6.moved (u := U) (U := U.calling g mk a) (Vm.Alike.refl U.vm)⟩
theorem fm_of {ws ws' : va_W} {is : List Nat} (hs : is.map (fun i => ws[i]?) = ws'.map some) : is.filterMap (fun i => ws[i]?) = ws' := by
  have h1 : (is.map (fun i => ws[i]?)).filterMap id = (ws'.map some).filterMap id := by rw [hs]
  rw [List.filterMap_map, List.filterMap_map] at h1
  simpa using h1
section GC
variable {X : Fx} {l : Launch} {D : va_G} {z : Nat × Nat × Nat} {cc : ByteArray} {own : String} {Ts : List Cond} {nL : Nat} {R : Room} {ini : Bool} {u v pc : Nat} {L L' : List (Nat × Value)} {st stk : List Value} {ws ws' win wr : va_W} {y : MethodName} {wsy wsy' : List Cond} {rm : Room} {b : Nat} {As : List Value} {post : Option Value → va_W → Prop} {mc ms maxL index : Nat} {bytes : ByteArray} {ret : Option FieldType}
theorem g_callV (O : Ok X l D z cc own Ts nL R ini) (hM : CM l y wsy rm D z (.ref b :: As) win post mc ms) (hG : GoodIn Ts (wsV own index y.cls y wsy)) (hw : wsy = Cond.code y bytes maxL ret :: wsy') (hrc : rm.cells = mc) (hrs : rm.slots = ms) (n : Nat) (hd : y.cls ≠ "java/lang/invoke/MethodHandle" ∧ y.cls ≠ "java/lang/invoke/VarHandle" ∧ (parseMethodDescriptor y.desc).map (fun d => d.parameters.length) = some n) (hR : rm.frames + 1 ≤ R.frames ∧ 8 + (maxL + 11) + rm.locals ≤ R.locals) (hcs : u + mc ≤ R.cells ∧ v + ms ≤ R.slots) {ci q0 : Nat} {rC : vw_C} {fs : List Value} (he : win[q0]? = some (b, .inr (ci, fs))) (hc : vwCl[ci]? = some rC) (hcr : rC.1 = y.cls)
    (isC isR : List Nat) (hC : isC.map (fun i => ws[i]?) = win.map some) (hnC : va_nd isC = true) (hRr : isR.map (fun i => ws[i]?) = wr.map some) (hnR : va_nd isR = true) (hdis : ∀ i ∈ isR, i ∉ isC) (hAs : As.length = n) (hstk : stk = As.reverse ++ .ref b :: st) (hW : (st.map fun v => v.category).sum ≤ 8) (hdg : decode cc pc = .ok (.invokevirtual index, 3))
    (kk : ∀ (r : Option Value) (w : va_W), post r w → G X (u + mc) (v + ms) (pc + 3) L (r.toList ++ st) (wr ++ w)) : G X u v pc L stk ws := by
  obtain ⟨p, l', e, R', s, m, args, below, meth, c, Q, nL', D', z', A⟩ := X
  obtain ⟨hx, hb, hml, hown, hts, hE, hA, hZ, hlk, rfl, rfl, rfl, rfl, rfl, hin⟩ := O
  intro ls H locs hL hP hD hS
  have hPc := hP.sub isC (fm_of hC)
  have hDc := hD.sub isC hnC hC
  have hFc := va_free hD hS hA isC hC
  have hZH := (hZ.kept hS.2.1).narrow hFc
  have run := va_runV (e := e) (below := below) (meth := meth) (locs := locs) (As := As) (rest := st) (C := y.cls) ⟨hx, hb, hml, hown, hts⟩ (hM H.size) (cwV n hts hG hw hrc hrs ⟨rfl, hd⟩ hR) ⟨CP.blind, hcr ▸ va_recv hE.1 hPc hc he, fun U hU hW => ⟨rfl, by rw [hU], by rw [hU]; exact hPc, EN.warm hW hE, hDc.weaken (fun _ _ _ _ => trivial), by rw [hU]; exact hZH.moved hW.alike⟩⟩ rfl hAs hL.1 hstk (lv_room hW) hdg hcs
  intro T hT XS
  obtain ⟨r, st₀, t, T', L2, h0, X', hLf, e1, e2, ⟨⟨r', w1, hoc, hpost, hP1, hD1⟩, hz, hk⟩, stp⟩ := run T hT XS
  cases hoc
  rw [h0] at hz hk
  obtain ⟨hP2, hD2⟩ := va_join hP hD isC isR hC hRr hnR hdis hk hFc hP1 hD1
  obtain ⟨t2, a1, b1⟩ := kk r w1 hpost ls t.heap (locs ++ L2) hL hP2 hD2 ⟨Nat.le_trans hS.1 hz, fun q h1 h2 => by rw [hk q (Nat.lt_of_lt_of_le h1 hS.1) (fun g => h2 (hFc q g))]; exact hS.2.1 q h1 h2, fun q hq => by
      rcases List.mem_append.mp hq with h | h
      · exact hS.2.2 q h
      · exact hFc _ (hLf q h)⟩ T' e1 X'
  exact ⟨t2, stp t2 a1, b1⟩
theorem g_callS (O : Ok X l D z cc own Ts nL R ini) (hM : CM l y wsy rm D z (As) win post mc ms) (hG : GoodIn Ts (va_wsS own index y wsy)) (hw : wsy = Cond.code y bytes maxL ret :: wsy') (hrc : rm.cells = mc) (hrs : rm.slots = ms) (n : Nat) (hd : y.cls ≠ "java/lang/invoke/MethodHandle" ∧ y.cls ≠ "java/lang/invoke/VarHandle" ∧ (parseMethodDescriptor y.desc).map (fun d => d.parameters.length) = some n) (hR : rm.frames + 1 ≤ R.frames ∧ 8 + (maxL + 11) + rm.locals ≤ R.locals) (hcs : u + mc ≤ R.cells ∧ v + ms ≤ R.slots)
    (isC isR : List Nat) (hC : isC.map (fun i => ws[i]?) = win.map some) (hnC : va_nd isC = true) (hRr : isR.map (fun i => ws[i]?) = wr.map some) (hnR : va_nd isR = true) (hdis : ∀ i ∈ isR, i ∉ isC) (hAs : As.length = n) (hstk : stk = As.reverse ++ st) (hW : (st.map fun v => v.category).sum ≤ 8) (hdg : decode cc pc = .ok (.invokestatic index, 3))
    (kk : ∀ (r : Option Value) (w : va_W), post r w → G X (u + mc) (v + ms) (pc + 3) L (r.toList ++ st) (wr ++ w)) : G X u v pc L stk ws := by
  obtain ⟨p, l', e, R', s, m, args, below, meth, c, Q, nL', D', z', A⟩ := X
  obtain ⟨hx, hb, hml, hown, hts, hE, hA, hZ, hlk, rfl, rfl, rfl, rfl, rfl, hin⟩ := O
  intro ls H locs hL hP hD hS
  have hPc := hP.sub isC (fm_of hC)
  have hDc := hD.sub isC hnC hC
  have hFc := va_free hD hS hA isC hC
  have hZH := (hZ.kept hS.2.1).narrow hFc
  have run := va_runS (e := e) (below := below) (meth := meth) (locs := locs) (As := As) (rest := st) ⟨hx, hb, hml, hown, hts⟩ (hM H.size) (va_cwS n hts hG hw hrc hrs hd hR) ⟨CP.blind, fun U hU hW => ⟨rfl, by rw [hU], by rw [hU]; exact hPc, EN.warm hW hE, hDc.weaken (fun _ _ _ _ => trivial), by rw [hU]; exact hZH.moved hW.alike⟩⟩ rfl hAs hL.1 hstk (lv_room hW) hdg hcs
  intro T hT XS
  obtain ⟨r, st₀, t, T', L2, h0, X', hLf, e1, e2, ⟨⟨r', w1, hoc, hpost, hP1, hD1⟩, hz, hk⟩, stp⟩ := run T hT XS
  cases hoc
  rw [h0] at hz hk
  obtain ⟨hP2, hD2⟩ := va_join hP hD isC isR hC hRr hnR hdis hk hFc hP1 hD1
  obtain ⟨t2, a1, b1⟩ := kk r w1 hpost ls t.heap (locs ++ L2) hL hP2 hD2 ⟨Nat.le_trans hS.1 hz, fun q h1 h2 => by rw [hk q (Nat.lt_of_lt_of_le h1 hS.1) (fun g => h2 (hFc q g))]; exact hS.2.1 q h1 h2, fun q hq => by
      rcases List.mem_append.mp hq with h | h
      · exact hS.2.2 q h
      · exact hFc _ (hLf q h)⟩ T' e1 X'
  exact ⟨t2, stp t2 a1, b1⟩
theorem g_callI (O : Ok X l D z cc own Ts nL R ini) (hM : CM l y wsy rm D z (.ref b :: As) win post mc ms) (hG : GoodIn Ts wsy) (hw : wsy = Cond.code y bytes maxL none :: wsy') (hrc : rm.cells = mc) (hrs : rm.slots = ms) (n : Nat) (hd : y.cls ≠ "java/lang/invoke/MethodHandle" ∧ y.cls ≠ "java/lang/invoke/VarHandle" ∧ (parseMethodDescriptor y.desc).map (fun d => d.parameters.length) = some n) (hR : rm.frames + 1 ≤ R.frames ∧ 8 + (maxL + 11) + rm.locals ≤ R.locals) (hcs : u + mc ≤ R.cells ∧ v + ms ≤ R.slots) (hini : Cond.initialized y.cls ∈ Ts) (hl : Cond.methodLink own index y ∈ Ts) (hi : Cond.instanceMethod y ∈ Ts) (hy1 : y.name = "<init>")
    (isC isR : List Nat) (hC : isC.map (fun i => ws[i]?) = win.map some) (hnC : va_nd isC = true) (hRr : isR.map (fun i => ws[i]?) = wr.map some) (hnR : va_nd isR = true) (hdis : ∀ i ∈ isR, i ∉ isC) (hAs : As.length = n) (hstk : stk = As.reverse ++ .ref b :: st) (hW : (st.map fun v => v.category).sum ≤ 8) (hdg : decode cc pc = .ok (.invokespecial index, 3))
    (kk : ∀ (r : Option Value) (w : va_W), post r w → G X (u + mc) (v + ms) (pc + 3) L (r.toList ++ st) (wr ++ w)) : G X u v pc L stk ws := by
  obtain ⟨p, l', e, R', s, m, args, below, meth, c, Q, nL', D', z', A⟩ := X
  obtain ⟨hx, hb, hml, hown, hts, hE, hA, hZ, hlk, rfl, rfl, rfl, rfl, rfl, hin⟩ := O
  intro ls H locs hL hP hD hS
  have hPc := hP.sub isC (fm_of hC)
  have hDc := hD.sub isC hnC hC
  have hFc := va_free hD hS hA isC hC
  have hZH := (hZ.kept hS.2.1).narrow hFc
  have run := va_runI (e := e) (below := below) (meth := meth) (locs := locs) (As := As) (rest := st) (b := b) ⟨hx, hb, hml, hown, hts⟩ (hM H.size) (cwI n hts hG hw hrc hrs (hts _ hini) (hts _ hl) (hts _ hi) hy1 hd hR) ⟨CP.blind, fun U hU hW => ⟨rfl, by rw [hU], by rw [hU]; exact hPc, EN.warm hW hE, hDc.weaken (fun _ _ _ _ => trivial), by rw [hU]; exact hZH.moved hW.alike⟩⟩ rfl hAs hL.1 hstk (lv_room hW) hdg hcs
  intro T hT XS
  obtain ⟨r, st₀, t, T', L2, h0, X', hLf, e1, e2, ⟨⟨r', w1, hoc, hpost, hP1, hD1⟩, hz, hk⟩, stp⟩ := run T hT XS
  cases hoc
  rw [h0] at hz hk
  obtain ⟨hP2, hD2⟩ := va_join hP hD isC isR hC hRr hnR hdis hk hFc hP1 hD1
  obtain ⟨t2, a1, b1⟩ := kk r w1 hpost ls t.heap (locs ++ L2) hL hP2 hD2 ⟨Nat.le_trans hS.1 hz, fun q h1 h2 => by rw [hk q (Nat.lt_of_lt_of_le h1 hS.1) (fun g => h2 (hFc q g))]; exact hS.2.1 q h1 h2, fun q hq => by
      rcases List.mem_append.mp hq with h | h
      · exact hS.2.2 q h
      · exact hFc _ (hLf q h)⟩ T' e1 X'
  exact ⟨t2, stp t2 a1, b1⟩
theorem g_callSN (O : Ok X l D z cc own Ts nL R ini) (hM : CM l y wsy rm D z (As) win post mc ms) (hG : GoodIn Ts wsy) (hw : wsy = Cond.code y bytes maxL ret :: wsy') (hrc : rm.cells = mc) (hrs : rm.slots = ms) (n : Nat) (hd : y.cls ≠ "java/lang/invoke/MethodHandle" ∧ y.cls ≠ "java/lang/invoke/VarHandle" ∧ (parseMethodDescriptor y.desc).map (fun d => d.parameters.length) = some n) (hR : rm.frames + 1 ≤ R.frames ∧ 8 + (maxL + 11) + rm.locals ≤ R.locals) (hcs : u + mc ≤ R.cells ∧ v + ms ≤ R.slots) {host : String} (hini : Cond.initialized y.cls ∈ Ts) (j : Nat) (hl : NWm[j]? = some (own, index, y, host)) (hi : Cond.static y ∈ Ts)
    (isC isR : List Nat) (hC : isC.map (fun i => ws[i]?) = win.map some) (hnC : va_nd isC = true) (hRr : isR.map (fun i => ws[i]?) = wr.map some) (hnR : va_nd isR = true) (hdis : ∀ i ∈ isR, i ∉ isC) (hAs : As.length = n) (hstk : stk = As.reverse ++ st) (hW : (st.map fun v => v.category).sum ≤ 8) (hdg : decode cc pc = .ok (.invokestatic index, 3))
    (kk : ∀ (r : Option Value) (w : va_W), post r w → G X (u + mc) (v + ms) (pc + 3) L (r.toList ++ st) (wr ++ w)) : G X u v pc L stk ws := by
  obtain ⟨p, l', e, R', s, m, args, below, meth, c, Q, nL', D', z', A⟩ := X
  obtain ⟨hx, hb, hml, hown, hts, hE, hA, hZ, hlk, rfl, rfl, rfl, rfl, rfl, hin⟩ := O
  intro ls H locs hL hP hD hS
  have hPc := hP.sub isC (fm_of hC)
  have hDc := hD.sub isC hnC hC
  have hFc := va_free hD hS hA isC hC
  have hZH := (hZ.kept hS.2.1).narrow hFc
  have run := va_runSN (e := e) (below := below) (meth := meth) (locs := locs) (As := As) (rest := st) ⟨hx, hb, hml, hown, hts⟩ (hM H.size) ⟨va_cnB n hts hG hw hrc hrs (hE.2.2 _ (List.mem_of_getElem? hl)) (hts _ hini) hd hR, hts _ hi, trivial⟩ ⟨CP.blind, fun U hU hW => ⟨rfl, by rw [hU], by rw [hU]; exact hPc, EN.warm hW hE, hDc.weaken (fun _ _ _ _ => trivial), by rw [hU]; exact hZH.moved hW.alike⟩⟩ rfl hAs hL.1 hstk (lv_room hW) hdg hcs
  intro T hT XS
  obtain ⟨r, st₀, t, T', L2, h0, X', hLf, e1, e2, ⟨⟨r', w1, hoc, hpost, hP1, hD1⟩, hz, hk⟩, stp⟩ := run T hT XS
  cases hoc
  rw [h0] at hz hk
  obtain ⟨hP2, hD2⟩ := va_join hP hD isC isR hC hRr hnR hdis hk hFc hP1 hD1
  obtain ⟨t2, a1, b1⟩ := kk r w1 hpost ls t.heap (locs ++ L2) hL hP2 hD2 ⟨Nat.le_trans hS.1 hz, fun q h1 h2 => by rw [hk q (Nat.lt_of_lt_of_le h1 hS.1) (fun g => h2 (hFc q g))]; exact hS.2.1 q h1 h2, fun q hq => by
      rcases List.mem_append.mp hq with h | h
      · exact hS.2.2 q h
      · exact hFc _ (hLf q h)⟩ T' e1 X'
  exact ⟨t2, stp t2 a1, b1⟩
theorem g_callIN (O : Ok X l D z cc own Ts nL R ini) (hM : CM l y wsy rm D z (.ref b :: As) win post mc ms) (hG : GoodIn Ts wsy) (hw : wsy = Cond.code y bytes maxL none :: wsy') (hrc : rm.cells = mc) (hrs : rm.slots = ms) (n : Nat) (hd : y.cls ≠ "java/lang/invoke/MethodHandle" ∧ y.cls ≠ "java/lang/invoke/VarHandle" ∧ (parseMethodDescriptor y.desc).map (fun d => d.parameters.length) = some n) (hR : rm.frames + 1 ≤ R.frames ∧ 8 + (maxL + 11) + rm.locals ≤ R.locals) (hcs : u + mc ≤ R.cells ∧ v + ms ≤ R.slots) {host : String} (hini : Cond.initialized y.cls ∈ Ts) (j : Nat) (hl : NWm[j]? = some (own, index, y, host)) (hi : Cond.instanceMethod y ∈ Ts) (hy1 : y.name = "<init>")
    (isC isR : List Nat) (hC : isC.map (fun i => ws[i]?) = win.map some) (hnC : va_nd isC = true) (hRr : isR.map (fun i => ws[i]?) = wr.map some) (hnR : va_nd isR = true) (hdis : ∀ i ∈ isR, i ∉ isC) (hAs : As.length = n) (hstk : stk = As.reverse ++ .ref b :: st) (hW : (st.map fun v => v.category).sum ≤ 8) (hdg : decode cc pc = .ok (.invokespecial index, 3))
    (kk : ∀ (r : Option Value) (w : va_W), post r w → G X (u + mc) (v + ms) (pc + 3) L (r.toList ++ st) (wr ++ w)) : G X u v pc L stk ws := by
  obtain ⟨p, l', e, R', s, m, args, below, meth, c, Q, nL', D', z', A⟩ := X
  obtain ⟨hx, hb, hml, hown, hts, hE, hA, hZ, hlk, rfl, rfl, rfl, rfl, rfl, hin⟩ := O
  intro ls H locs hL hP hD hS
  have hPc := hP.sub isC (fm_of hC)
  have hDc := hD.sub isC hnC hC
  have hFc := va_free hD hS hA isC hC
  have hZH := (hZ.kept hS.2.1).narrow hFc
  have run := va_runIN (e := e) (below := below) (meth := meth) (locs := locs) (As := As) (rest := st) (b := b) ⟨hx, hb, hml, hown, hts⟩ (hM H.size) ⟨va_cnB n hts hG hw hrc hrs (hE.2.2 _ (List.mem_of_getElem? hl)) (hts _ hini) hd hR, hy1, hts _ hi⟩ ⟨CP.blind, fun U hU hW => ⟨rfl, by rw [hU], by rw [hU]; exact hPc, EN.warm hW hE, hDc.weaken (fun _ _ _ _ => trivial), by rw [hU]; exact hZH.moved hW.alike⟩⟩ rfl hAs hL.1 hstk (lv_room hW) hdg hcs
  intro T hT XS
  obtain ⟨r, st₀, t, T', L2, h0, X', hLf, e1, e2, ⟨⟨r', w1, hoc, hpost, hP1, hD1⟩, hz, hk⟩, stp⟩ := run T hT XS
  cases hoc
  rw [h0] at hz hk
  obtain ⟨hP2, hD2⟩ := va_join hP hD isC isR hC hRr hnR hdis hk hFc hP1 hD1
  obtain ⟨t2, a1, b1⟩ := kk r w1 hpost ls t.heap (locs ++ L2) hL hP2 hD2 ⟨Nat.le_trans hS.1 hz, fun q h1 h2 => by rw [hk q (Nat.lt_of_lt_of_le h1 hS.1) (fun g => h2 (hFc q g))]; exact hS.2.1 q h1 h2, fun q hq => by
      rcases List.mem_append.mp hq with h | h
      · exact hS.2.2 q h
      · exact hFc _ (hLf q h)⟩ T' e1 X'
  exact ⟨t2, stp t2 a1, b1⟩
theorem g_objInit (O : Ok X l D z cc own Ts nL R ini) {a : Nat} (hl : Cond.methodLink own index objectInit ∈ Ts) (hi : Cond.instanceMethod objectInit ∈ Ts) (hc : Cond.code objectInit ⟨#[0xb1]⟩ 1 none ∈ Ts) (hR : 1 ≤ R.frames) (hR2 : (st.map fun v => v.category).sum + 12 ≤ R.locals) (hdg : decode cc pc = .ok (.invokespecial index, 3)) (kk : G X u v (pc + 3) L st ws) : G X u v pc L (.ref a :: st) ws := by
  obtain ⟨p, l', e, R', s, m, args, below, meth, c, Q, nL', D', z', A⟩ := X
  obtain ⟨hx, hb, hml, hown, hts, hE, hA, hZ, hlk, rfl, rfl, rfl, rfl, rfl, hin⟩ := O
  intro ls H locs hL hP hD hS
  exact W.objInit hx hb hown (hts _ hl) (hts _ hi) (hts _ hc) rfl (by rw [hml]; exact hL.1) rfl hdg hR (by show 2 * 0 + _ + 12 ≤ _; omega) (kk ls H locs hL hP hD hS)
theorem g_max (O : Ok X l D z cc own Ts nL R ini) {x0 y0 : Int32} (hl : Cond.methodLink own index Lib.Math.max.name ∈ Ts) (hs : Cond.static Lib.Math.max.name ∈ Ts) (hi : Cond.initialized "java/lang/Math" ∈ Ts) (hc : Cond.code Lib.Math.max.name Lib.Math.max.code 2 (some .int) ∈ Ts) (hR : 1 ≤ R.frames) (hR2 : (st.map fun v => v.category).sum + 13 ≤ R.locals) (hcs : u ≤ R.cells ∧ v ≤ R.slots) (hdg : decode cc pc = .ok (.invokestatic index, 3)) (kk : G X u v (pc + 3) L (.int (if x0 < y0 then y0 else x0) :: st) ws) : G X u v pc L (.int y0 :: .int x0 :: st) ws := by
  obtain ⟨p, l', e, R', s, m, args, below, meth, c, Q, nL', D', z', A⟩ := X
  obtain ⟨hx, hb, hml, hown, hts, hE, hA, hZ, hlk, rfl, rfl, rfl, rfl, rfl, hin⟩ := O
  intro ls H locs hL hP hD hS
  exact va_mmax hx hb (hml.trans hL.1.symm) hown (hts _ hl) (hts _ hs) (hts _ hi) (hts _ hc) hR hR2 hcs.1 hcs.2 hdg (kk ls H locs hL hP hD hS)
theorem g_min (O : Ok X l D z cc own Ts nL R ini) {x0 y0 : Int32} (hl : Cond.methodLink own index Lib.Math.min.name ∈ Ts) (hs : Cond.static Lib.Math.min.name ∈ Ts) (hi : Cond.initialized "java/lang/Math" ∈ Ts) (hc : Cond.code Lib.Math.min.name Lib.Math.min.code 2 (some .int) ∈ Ts) (hR : 1 ≤ R.frames) (hR2 : (st.map fun v => v.category).sum + 13 ≤ R.locals) (hcs : u ≤ R.cells ∧ v ≤ R.slots) (hdg : decode cc pc = .ok (.invokestatic index, 3)) (kk : G X u v (pc + 3) L (.int (if y0 < x0 then y0 else x0) :: st) ws) : G X u v pc L (.int y0 :: .int x0 :: st) ws := by
  obtain ⟨p, l', e, R', s, m, args, below, meth, c, Q, nL', D', z', A⟩ := X
  obtain ⟨hx, hb, hml, hown, hts, hE, hA, hZ, hlk, rfl, rfl, rfl, rfl, rfl, hin⟩ := O
  intro ls H locs hL hP hD hS
  exact va_mmin hx hb (hml.trans hL.1.symm) hown (hts _ hl) (hts _ hs) (hts _ hi) (hts _ hc) hR hR2 hcs.1 hcs.2 hdg (kk ls H locs hL hP hD hS)
theorem g_abs (O : Ok X l D z cc own Ts nL R ini) {x0 : Int32} (hl : Cond.methodLink own index Lib.Math.abs.name ∈ Ts) (hs : Cond.static Lib.Math.abs.name ∈ Ts) (hi : Cond.initialized "java/lang/Math" ∈ Ts) (hc : Cond.code Lib.Math.abs.name Lib.Math.abs.code 1 (some .int) ∈ Ts) (hR : 1 ≤ R.frames) (hR2 : (st.map fun v => v.category).sum + 13 ≤ R.locals) (hcs : u ≤ R.cells ∧ v ≤ R.slots) (hdg : decode cc pc = .ok (.invokestatic index, 3)) (kk : G X u v (pc + 3) L (.int (if 0 ≤ x0 then x0 else 0 - x0) :: st) ws) : G X u v pc L (.int x0 :: st) ws := by
  obtain ⟨p, l', e, R', s, m, args, below, meth, c, Q, nL', D', z', A⟩ := X
  obtain ⟨hx, hb, hml, hown, hts, hE, hA, hZ, hlk, rfl, rfl, rfl, rfl, rfl, hin⟩ := O
  intro ls H locs hL hP hD hS
  exact va_mabs hx hb (hml.trans hL.1.symm) hown (hts _ hl) (hts _ hs) (hts _ hi) (hts _ hc) hR hR2 hcs.1 hcs.2 hdg (kk ls H locs hL hP hD hS)
theorem g_copyI (O : Ok X l D z cc own Ts nL R ini) {a a0 n0 n1 : Nat} {f g f' : Nat → Int32} {sp dp n : Int32} (q0 q1 : Nat) (ha0 : ws[q0]? = some (a0, .inl ((TY D)[0].1, n0, .inl f))) (ha1 : ws[q1]? = some (a, .inl ((TY D)[0].1, n1, .inl g))) (hl : Cond.methodLink own index arraycopyName ∈ Ts) (hnat : Cond.native arraycopyName ∈ Ts) (hs : Cond.static arraycopyName ∈ Ts) (hi : Cond.initialized "java/lang/System" ∈ Ts)
    (h1 : ¬ sp < 0) (h2 : ¬ dp < 0) (h3 : ¬ n < 0) (h4 : sp.toNatClampNeg + n.toNatClampNeg ≤ n0) (h5 : dp.toNatClampNeg + n.toNatClampNeg ≤ n1) (hR : 1 ≤ R.frames) (hR2 : (st.map fun v => v.category).sum + (nativeFrameWords "java/lang/System" "arraycopy" 5 + 11) ≤ R.locals) (hdg : decode cc pc = .ok (.invokestatic index, 3)) (hf : va_cpy f g sp.toNatClampNeg dp.toNatClampNeg n.toNatClampNeg = f') (hw : ws.set q1 (a, .inl ((TY D)[0].1, n1, .inl f')) = ws')
    (kk : G X u v (pc + 3) L st ws') : G X u v pc L (.int n :: .int dp :: .ref a :: .int sp :: .ref a0 :: st) ws := by
  obtain ⟨p, l', e, R', s, m, args, below, meth, c, Q, nL', D', z', A⟩ := X
  obtain ⟨hx, hb, hml, hown, hts, hE, hA, hZ, hlk, rfl, rfl, rfl, rfl, rfl, hin⟩ := O
  intro ls H locs hL hP hD hS
  subst hw
  subst hf
  exact va_copyi hx hb (hml.trans hL.1.symm) hown (hts _ hl) (hts _ hnat) (hts _ hs) (hts _ hi) hE.1 hP hD hS q0 q1 0 0 ha0 ha1 rfl rfl rfl h1 h2 h3 h4 h5 (fun _ _ => rfl) hR hR2 hdg (fun H1 locs1 hP1 hD1 hS1 => kk ls H1 locs1 hL hP1 hD1 hS1)
theorem CM_int {av : List Value} {L0 : List (Nat × Value)} {Ts' : List Cond} (hy : plainName y.cls = true) (hc : y.cls = own) (hw : Ts = Cond.code y cc maxL (some .int) :: Ts') (hl0 : (lg_sl av).length ≤ maxL) (hL0 : lv_args 0 av = L0)
    (body : ∀ X : Fx, Ok X l D z cc own Ts maxL rm (y.name == "<init>") → (∀ (pc : Nat) (L : List (Nat × Value)) (x : Int32) (ws : va_W), decode cc pc = .ok (.ireturn, 1) → post (some (.int x)) ws → G X mc ms pc L [.int x] ws) → G X 0 0 0 L0 [] win) : CM l y Ts rm D z av win post mc ms := by
  intro sz
  refine Met.ofW (cc := cc) (maxL := maxL) (ret := (some .int)) hy hw ?_
  intro p e s m args below meth c s₁ B hml hv
  obtain ⟨rfl, hsz, hP, hE, hD0, hZ⟩ := hv
  have hts := atoms_spec (ws := Ts) B.pre
  have hown : s.vm.findClass own = some m.cls := hc ▸ findClass_of_methodNamed B.named
  have hlocks := B.notSynchronized
  subst hsz
  have hD := hD0.self (sz := s.heap.size)
  have hl := lv_entry av (n := maxL) hl0
  rw [lg_entry_eq]
  rw [hL0] at hl
  refine body (p, l, e, (headSpec Ts rm).room, s, m, av.toArray, below, meth, c, MQ below (CQ D win post s.heap.size) av.toArray s mc ms (va_A win s.heap.size), maxL, D, z, va_A win s.heap.size) ⟨B.exec, B.bytes, hml, hown, hts, hE, fun q h => Or.inr h, hZ, hlocks, rfl, rfl, rfl, rfl, rfl, fun h => (name_of_methodNamed B.named B.method).1.trans (by simpa using h)⟩ ?_ _ _ [] hl hP hD va_S.rf
  intro pc L x ws hdg hp ls H locs hL hP hD hS
  exact W.iret B.exec B.bytes B.returns (fun t ht hW => ⟨⟨_, ws, rfl, hp, by rw [ht]; exact hP, hD⟩, hS.F ht⟩) hS.2.2 hdg
theorem CM_bool {av : List Value} {L0 : List (Nat × Value)} {Ts' : List Cond} (hy : plainName y.cls = true) (hc : y.cls = own) (hw : Ts = Cond.code y cc maxL (some .boolean) :: Ts') (hl0 : (lg_sl av).length ≤ maxL) (hL0 : lv_args 0 av = L0)
    (body : ∀ X : Fx, Ok X l D z cc own Ts maxL rm (y.name == "<init>") → (∀ (pc : Nat) (L : List (Nat × Value)) (x : Bool) (ws : va_W), decode cc pc = .ok (.ireturn, 1) → post (some (.int (bB x))) ws → G X mc ms pc L [.int (bB x)] ws) → G X 0 0 0 L0 [] win) : CM l y Ts rm D z av win post mc ms := by
  intro sz
  refine Met.ofW (cc := cc) (maxL := maxL) (ret := (some .boolean)) hy hw ?_
  intro p e s m args below meth c s₁ B hml hv
  obtain ⟨rfl, hsz, hP, hE, hD0, hZ⟩ := hv
  have hts := atoms_spec (ws := Ts) B.pre
  have hown : s.vm.findClass own = some m.cls := hc ▸ findClass_of_methodNamed B.named
  have hlocks := B.notSynchronized
  subst hsz
  have hD := hD0.self (sz := s.heap.size)
  have hl := lv_entry av (n := maxL) hl0
  rw [lg_entry_eq]
  rw [hL0] at hl
  refine body (p, l, e, (headSpec Ts rm).room, s, m, av.toArray, below, meth, c, MQ below (CQ D win post s.heap.size) av.toArray s mc ms (va_A win s.heap.size), maxL, D, z, va_A win s.heap.size) ⟨B.exec, B.bytes, hml, hown, hts, hE, fun q h => Or.inr h, hZ, hlocks, rfl, rfl, rfl, rfl, rfl, fun h => (name_of_methodNamed B.named B.method).1.trans (by simpa using h)⟩ ?_ _ _ [] hl hP hD va_S.rf
  intro pc L x ws hdg hp ls H locs hL hP hD hS
  exact W.zret B.exec B.bytes B.returns (bB_nn x) (fun t ht hW => ⟨⟨_, ws, rfl, hp, by rw [ht]; exact hP, hD⟩, hS.F ht⟩) hS.2.2 hdg
theorem CM_void {av : List Value} {L0 : List (Nat × Value)} {Ts' : List Cond} (hy : plainName y.cls = true) (hc : y.cls = own) (hw : Ts = Cond.code y cc maxL none :: Ts') (hl0 : (lg_sl av).length ≤ maxL) (hL0 : lv_args 0 av = L0)
    (body : ∀ X : Fx, Ok X l D z cc own Ts maxL rm (y.name == "<init>") → (∀ (pc : Nat) (L : List (Nat × Value)) (ws : va_W), decode cc pc = .ok (.return_, 1) → post none ws → G X mc ms pc L [] ws) → G X 0 0 0 L0 [] win) : CM l y Ts rm D z av win post mc ms := by
  intro sz
  refine Met.ofW (cc := cc) (maxL := maxL) (ret := none) hy hw ?_
  intro p e s m args below meth c s₁ B hml hv
  obtain ⟨rfl, hsz, hP, hE, hD0, hZ⟩ := hv
  have hts := atoms_spec (ws := Ts) B.pre
  have hown : s.vm.findClass own = some m.cls := hc ▸ findClass_of_methodNamed B.named
  have hlocks := B.notSynchronized
  subst hsz
  have hD := hD0.self (sz := s.heap.size)
  have hl := lv_entry av (n := maxL) hl0
  rw [lg_entry_eq]
  rw [hL0] at hl
  refine body (p, l, e, (headSpec Ts rm).room, s, m, av.toArray, below, meth, c, MQ below (CQ D win post s.heap.size) av.toArray s mc ms (va_A win s.heap.size), maxL, D, z, va_A win s.heap.size) ⟨B.exec, B.bytes, hml, hown, hts, hE, fun q h => Or.inr h, hZ, hlocks, rfl, rfl, rfl, rfl, rfl, fun h => (name_of_methodNamed B.named B.method).1.trans (by simpa using h)⟩ ?_ _ _ [] hl hP hD va_S.rf
  intro pc L ws hdg hp ls H locs hL hP hD hS
  exact W.vret B.exec B.bytes B.returns (fun t ht hW => ⟨⟨_, ws, rfl, hp, by rw [ht]; exact hP, hD⟩, hS.F ht⟩) hS.2.2 hdg
end GC
