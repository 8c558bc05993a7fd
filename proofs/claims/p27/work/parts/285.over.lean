/-! a contract that also needs the row of states to be known -/
def AOX (X : Fx) : Prop := match X with
  | (_, _, _, _, s, _, _, _, _, _, _, _, _, _, _) => va_AO RX5 s
def CPA (D : va_G) (z : Nat × Nat × Nat) (av : List Value) (win : va_W) (sz : Nat) : Array Value → State → Prop := fun v U => CP D z av win sz v U ∧ va_AO RX5 U
def CMA (l : Launch) (y : MethodName) (Ts : List Cond) (rm : Room) (D : va_G) (z : Nat × Nat × Nat) (av : List Value) (win : va_W) (post : Option Value → va_W → Prop) (mc ms : Nat) : Prop :=
  ∀ sz, Met l y Ts rm (CPA D z av win sz) (CQ D win post sz) mc ms (va_A win sz)
theorem CPA.blind {D : va_G} {z : Nat × Nat × Nat} {av : List Value} {win : va_W} {sz : Nat} : FrameBlind (CPA D z av win sz) := by
  intro a U g mk h
  exact ⟨CP.blind a U g mk h.1, va_AO.moved (u := U) (U := U.calling g mk a) (Vm.Alike.refl U.vm) h.2⟩
section GA
variable {X : Fx} {l : Launch} {D : va_G} {z : Nat × Nat × Nat} {cc : ByteArray} {own : String} {Ts : List Cond} {nL : Nat} {R : Room} {ini : Bool} {u v pc : Nat} {L L' : List (Nat × Value)} {st stk : List Value} {ws ws' win wr : va_W} {y : MethodName} {wsy wsy' : List Cond} {rm : Room} {b : Nat} {As : List Value} {post : Option Value → va_W → Prop} {mc ms maxL index : Nat} {bytes : ByteArray} {ret : Option FieldType}
theorem g_callIA (O : Ok X l D z cc own Ts nL R ini) (AO : AOX X) (hM : CMA l y wsy rm D z (.ref b :: As) win post mc ms) (hG : GoodIn Ts wsy) (hw : wsy = Cond.code y bytes maxL none :: wsy') (hrc : rm.cells = mc) (hrs : rm.slots = ms) (n : Nat) (hd : y.cls ≠ "java/lang/invoke/MethodHandle" ∧ y.cls ≠ "java/lang/invoke/VarHandle" ∧ (parseMethodDescriptor y.desc).map (fun d => d.parameters.length) = some n) (hR : rm.frames + 1 ≤ R.frames ∧ 8 + (maxL + 11) + rm.locals ≤ R.locals) (hcs : u + mc ≤ R.cells ∧ v + ms ≤ R.slots) (hini : Cond.initialized y.cls ∈ Ts) (hl : Cond.methodLink own index y ∈ Ts) (hi : Cond.instanceMethod y ∈ Ts) (hy1 : y.name = "<init>")
    (isC isR : List Nat) (hC : isC.map (fun i => ws[i]?) = win.map some) (hnC : va_nd isC = true) (hRr : isR.map (fun i => ws[i]?) = wr.map some) (hnR : va_nd isR = true) (hdis : ∀ i ∈ isR, i ∉ isC) (hAs : As.length = n) (hstk : stk = As.reverse ++ .ref b :: st) (hW : (st.map fun v => v.category).sum ≤ 8) (hdg : decode cc pc = .ok (.invokespecial index, 3))
    (kk : ∀ (r : Option Value) (w : va_W), post r w → G X (u + mc) (v + ms) (pc + 3) L (r.toList ++ st) (wr ++ w)) : G X u v pc L stk ws := by
  obtain ⟨p, l', e, R', s, m, args, below, meth, c, Q, nL', D', z', A⟩ := X
  obtain ⟨hx, hb, hml, hown, hts, hE, hA, hZ, hlk, rfl, rfl, rfl, rfl, rfl, hin⟩ := O
  intro ls H locs hL hP hD hS
  have hPc := hP.sub isC (fm_of hC)
  have hDc := hD.sub isC hnC hC
  have hFc := va_free hD hS hA isC hC
  have hZH := (hZ.kept hS.2.1).narrow hFc
  have run := va_runI (e := e) (below := below) (meth := meth) (locs := locs) (As := As) (rest := st) (b := b) ⟨hx, hb, hml, hown, hts⟩ (hM H.size) (cwI n hts hG hw hrc hrs (hts _ hini) (hts _ hl) (hts _ hi) hy1 hd hR) ⟨CPA.blind, fun U hU hW => ⟨⟨rfl, by rw [hU], by rw [hU]; exact hPc, EN.warm hW hE, hDc.weaken (fun _ _ _ _ => trivial), by rw [hU]; exact hZH.moved hW.alike⟩, va_AO.moved hW.alike AO⟩⟩ rfl hAs hL.1 hstk (lv_room hW) hdg hcs
  intro T hT XS
  obtain ⟨r, st₀, t, T', L2, h0, X', hLf, e1, e2, ⟨⟨r', w1, hoc, hpost, hP1, hD1⟩, hz, hk⟩, stp⟩ := run T hT XS
  cases hoc
  rw [h0] at hz hk
  obtain ⟨hP2, hD2⟩ := va_join hP hD isC isR hC hRr hnR hdis hk hFc hP1 hD1
  obtain ⟨t2, a1, b1⟩ := kk r w1 hpost ls t.heap (locs ++ L2) hL hP2 hD2 ⟨Nat.le_trans hS.1 hz, fun q h1 h2 => by rw [hk q (Nat.lt_of_lt_of_le h1 hS.1) (fun g => h2 (hFc q g))]; exact hS.2.1 q h1 h2, fun q hq => by
      rcases List.mem_append.mp hq with h | h
      · exact hS.2.2 q h
      · exact hFc _ (hLf q h)⟩ T' e1 X'
  exact ⟨t2, stp t2 a1, b1⟩
theorem CMA_void {av : List Value} {L0 : List (Nat × Value)} {Ts' : List Cond} (hy : plainName y.cls = true) (hc : y.cls = own) (hw : Ts = Cond.code y cc maxL none :: Ts') (hl0 : (lg_sl av).length ≤ maxL) (hL0 : lv_args 0 av = L0)
    (body : ∀ X : Fx, Ok X l D z cc own Ts maxL rm (y.name == "<init>") → AOX X → (∀ (pc : Nat) (L : List (Nat × Value)) (ws : va_W), decode cc pc = .ok (.return_, 1) → post none ws → G X mc ms pc L [] ws) → G X 0 0 0 L0 [] win) : CMA l y Ts rm D z av win post mc ms := by
  intro sz
  refine Met.ofW (cc := cc) (maxL := maxL) (ret := none) hy hw ?_
  intro p e s m args below meth c s₁ B hml hv
  obtain ⟨⟨rfl, hsz, hP, hE, hD0, hZ⟩, hAO⟩ := hv
  have hts := atoms_spec (ws := Ts) B.pre
  have hown : s.vm.findClass own = some m.cls := hc ▸ findClass_of_methodNamed B.named
  have hlocks := B.notSynchronized
  subst hsz
  have hD := hD0.self (sz := s.heap.size)
  have hl := lv_entry av (n := maxL) hl0
  rw [lg_entry_eq]
  rw [hL0] at hl
  refine body (p, l, e, (headSpec Ts rm).room, s, m, av.toArray, below, meth, c, MQ below (CQ D win post s.heap.size) av.toArray s mc ms (va_A win s.heap.size), maxL, D, z, va_A win s.heap.size) ⟨B.exec, B.bytes, hml, hown, hts, hE, fun q h => Or.inr h, hZ, hlocks, rfl, rfl, rfl, rfl, rfl, fun h => (name_of_methodNamed B.named B.method).1.trans (by simpa using h)⟩ hAO ?_ _ _ [] hl hP hD va_S.rf
  intro pc L ws hdg hp ls H locs hL hP hD hS
  exact W.vret B.exec B.bytes B.returns (fun t ht hW => ⟨⟨_, ws, rfl, hp, by rw [ht]; exact hP, hD⟩, hS.F ht⟩) hS.2.2 hdg
theorem g_anewA (O : Ok X l D z cc own Ts nL R ini) (AO : AOX X) {n : Int32} {N : Nat} (hcl : Cond.classLink own index RX5 ∈ Ts) (hn : ¬ n < 0) (hN : n.toNatClampNeg = N) (hbytes : N * 4 ≤ 536870912) (hcells : u + 1 ≤ R.cells) (hslots : v + N ≤ R.slots) (hdg : decode cc pc = .ok (.anewarray index, 3)) (kk : ∀ q : Nat, G X (u + 1) (v + N) (pc + 3) L (.ref q :: st) (ws ++ [(q, .inl (tyO D, N, .inr (.inr (.inr (.inr (fun _ => none))))))])) : G X u v pc L (.int n :: st) ws := by
  obtain ⟨p, l', e, R', s, m, args, below, meth, c, Q, nL', D', z', A⟩ := X
  obtain ⟨hx, hb, hml, hown, hts, hE, hA, hZ, hlk, rfl, rfl, rfl, rfl, rfl, hin⟩ := O
  intro ls H locs hL hP hD hS
  refine va_newq hx hb hown (hts _ hcl) AO hE.1 hP hD hS hA hn hN hbytes hcells hslots hdg (fun q cA H1 hK1 hP1 hD1 hS1 => ?_)
  have hc := TY_obj hK1
  subst hc
  exact kk q ls H1 locs hL hP1 hD1 hS1
end GA
