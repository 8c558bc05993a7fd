/-! the packed walk: one predicate for 'the machine stands at pc with these locals, this stack, this world', a row an instruction -/
abbrev Fx : Type := Program × Launch × Env × Room × State × MethodId × Array Value × List Frame × Method × Code × (State → Prop) × Nat × va_G × (Nat × Nat × Nat) × (Nat → Prop)
abbrev TY (D : va_G) : List (ClassId × FieldType) := [(D.1 11, .int), (D.1 12, .boolean), (D.1 10, .char), (D.1 13, .object RX5)]
def zF : Nat → Int32 := fun j => match j with | 0 => 20 | 1 => 60 | 2 => 15 | _ => 150
def zL : Nat → Int32 := fun j => match j with | 0 => 0 | 1 => 1 | 2 => 0 | _ => 50
def zM : Nat → Int32 := fun j => match j with | 0 => 60 | 1 => 150 | 2 => 60 | _ => 201
def ZT (z : Nat × Nat × Nat) (A : Nat → Prop) (U : State) (H : Heap) : Prop :=
  (va_Z RX8 "FIRST_SETTING" "[I" (.ref z.1) A U H ∧ va_T .int z.1 4 (fun j => .int (zF j)) A U H) ∧ (va_Z RX8 "LEAST_SETTING" "[I" (.ref z.2.1) A U H ∧ va_T .int z.2.1 4 (fun j => .int (zL j)) A U H) ∧ (va_Z RX8 "MOST_SETTING" "[I" (.ref z.2.2) A U H ∧ va_T .int z.2.2 4 (fun j => .int (zM j)) A U H)
theorem ZT.moved {z : Nat × Nat × Nat} {A : Nat → Prop} {u U : State} {H : Heap} (hvm : u.vm.Alike U.vm) (h : ZT z A u H) : ZT z A U H :=
  ⟨⟨h.1.1.moved hvm, h.1.2.moved hvm⟩, ⟨h.2.1.1.moved hvm, h.2.1.2.moved hvm⟩, ⟨h.2.2.1.moved hvm, h.2.2.2.moved hvm⟩⟩
theorem ZT.kept {z : Nat × Nat × Nat} {A : Nat → Prop} {U : State} {H H1 : Heap} (h : ZT z A U H) (hq : ∀ a : Nat, a < H.size → ¬ A a → H1[a]? = H[a]?) : ZT z A U H1 :=
  ⟨⟨h.1.1.kept hq, h.1.2.kept hq⟩, ⟨h.2.1.1.kept hq, h.2.1.2.kept hq⟩, ⟨h.2.2.1.kept hq, h.2.2.2.kept hq⟩⟩
theorem ZT.narrow {z : Nat × Nat × Nat} {A B : Nat → Prop} {U : State} {H : Heap} (h : ZT z A U H) (hAB : ∀ q, B q → A q) : ZT z B U H :=
  ⟨⟨h.1.1.narrow hAB, h.1.2.narrow hAB⟩, ⟨h.2.1.1.narrow hAB, h.2.1.2.narrow hAB⟩, ⟨h.2.2.1.narrow hAB, h.2.2.2.narrow hAB⟩⟩
/-- the tables' part of a world: the classes, the array classes, the links to nest mates -/
def EN (D : va_G) (U : State) : Prop := va_K D vwCl (TY D) U ∧ (∀ q ∈ NWf, va_Nw (.fieldLinkNest q.1 q.2.1 q.2.2.1 q.2.2.2.1 q.2.2.2.2.1 q.2.2.2.2.2) U) ∧ (∀ q ∈ NWm, va_Nw (.methodLinkNest q.1 q.2.1 q.2.2.1 q.2.2.2) U)
theorem EN.warm {D : va_G} {s U : State} (hW : s.WarmedH U.vm) (h : EN D s) : EN D U :=
  ⟨va_K.moved hW.alike h.1, fun q hq => va_Nw.warmF hW (h.2.1 q hq), fun q hq => va_Nw.warmM hW (h.2.2 q hq)⟩
theorem EN.same {D : va_G} {s U : State} (hvm : s.vm = U.vm) (h : EN D s) : EN D U :=
  ⟨va_K.moved (hvm ▸ Vm.Alike.refl s.vm) h.1, fun q hq => va_Nw.same rfl hvm (h.2.1 q hq), fun q hq => va_Nw.same rfl hvm (h.2.2 q hq)⟩
def CP (D : va_G) (z : Nat × Nat × Nat) (av : List Value) (win : va_W) (sz : Nat) : Array Value → State → Prop := fun v U =>
  v = av.toArray ∧ U.heap.size = sz ∧ va_P D vwCl win U.heap ∧ EN D U ∧ va_D (fun _ => True) win ∧ ZT z (va_A win sz) U U.heap
def CQ (D : va_G) (win : va_W) (post : Option Value → va_W → Prop) (sz : Nat) : Array Value → State → Outcome → State → Prop := fun _ st oc t =>
  (∃ (r : Option Value) (u : va_W), oc = .returned r ∧ post r u ∧ va_P D vwCl u t.heap ∧ va_D (va_A win sz) u) ∧ va_F (va_A win sz) st t
/-- a contract: from these arguments and this world the method comes to an answer and a world of post -/
def CM (l : Launch) (y : MethodName) (Ts : List Cond) (rm : Room) (D : va_G) (z : Nat × Nat × Nat) (av : List Value) (win : va_W) (post : Option Value → va_W → Prop) (mc ms : Nat) : Prop :=
  ∀ sz, Met l y Ts rm (CP D z av win sz) (CQ D win post sz) mc ms (va_A win sz)
def G (X : Fx) (k n pc : Nat) (L : List (Nat × Value)) (st : List Value) (ws : va_W) : Prop := match X with
  | (p, l, e, R, s, m, args, below, meth, c, Q, nL, D, _, A) => ∀ (ls : Array Slot) (H : Heap) (locs : List Loc), lv_has ls nL L → va_P D vwCl ws H → va_D A ws → va_S A s.heap H locs → W p l e R s m args below meth c H locs k n Q (F0 m pc ls st)
def Ok (X : Fx) (l : Launch) (D : va_G) (z : Nat × Nat × Nat) (cc : ByteArray) (own : String) (Ts : List Cond) (nL : Nat) (R : Room) (ini : Bool) : Prop := match X with
  | (p, l', _, R', s, m, args, _, meth, c, _, nL', D', z', A) => p.tables.exec = Jvm.exec ∧ c.code = cc ∧ c.maxLocals = nL ∧ s.vm.findClass own = some m.cls ∧ (∀ w ∈ Ts, w.before args s = true) ∧ EN D s ∧ (∀ q, s.heap.size ≤ q → A q) ∧ ZT z A s s.heap ∧ meth.locks = false ∧ l' = l ∧ D' = D ∧ z' = z ∧ nL' = nL ∧ R' = R ∧ (ini = true → meth.name = "<init>")
section GR
variable {X : Fx} {l : Launch} {D : va_G} {z : Nat × Nat × Nat} {cc : ByteArray} {own : String} {Ts : List Cond} {nL : Nat} {R : Room} {ini : Bool} {u v pc : Nat} {L L' : List (Nat × Value)} {st : List Value} {ws ws' : va_W}
theorem g_iload (O : Ok X l D z cc own Ts nL R ini) {i : Nat} {x : Int32} (hdg : decode cc pc = .ok (.iload i, 2)) (k : Nat) (hl : L[k]? = some (i, .int x)) (kk : G X u v (pc + 2) L (.int x :: st) ws) : G X u v pc L st ws := by
  obtain ⟨p, l', e, R', s, m, args, below, meth, c, Q, nL', D', z', A⟩ := X
  obtain ⟨hx, hb, hml, hown, hts, hE, hA, hZ, hlk, rfl, rfl, rfl, rfl, rfl, hin⟩ := O
  intro ls H locs hL hP hD hS
  exact lv_iload hx hb hdg (lv_at hL k hl) (kk ls H locs hL hP hD hS)
theorem g_iload_n (O : Ok X l D z cc own Ts nL R ini) {i : Fin 4} {j : Nat} {x : Int32} (hdg : decode cc pc = .ok (.iload_n i, 1)) (k : Nat) (hi : (i : Nat) = j) (hl : L[k]? = some (j, .int x)) (kk : G X u v (pc + 1) L (.int x :: st) ws) : G X u v pc L st ws := by
  obtain ⟨p, l', e, R', s, m, args, below, meth, c, Q, nL', D', z', A⟩ := X
  obtain ⟨hx, hb, hml, hown, hts, hE, hA, hZ, hlk, rfl, rfl, rfl, rfl, rfl, hin⟩ := O
  intro ls H locs hL hP hD hS
  exact lv_iload_n hx hb hdg hi (lv_at hL k hl) (kk ls H locs hL hP hD hS)
theorem g_aload_n (O : Ok X l D z cc own Ts nL R ini) {i : Fin 4} {j : Nat} {x : Nat} (hdg : decode cc pc = .ok (.aload_n i, 1)) (k : Nat) (hi : (i : Nat) = j) (hl : L[k]? = some (j, .ref x)) (kk : G X u v (pc + 1) L (.ref x :: st) ws) : G X u v pc L st ws := by
  obtain ⟨p, l', e, R', s, m, args, below, meth, c, Q, nL', D', z', A⟩ := X
  obtain ⟨hx, hb, hml, hown, hts, hE, hA, hZ, hlk, rfl, rfl, rfl, rfl, rfl, hin⟩ := O
  intro ls H locs hL hP hD hS
  exact lv_aload_n hx hb hdg hi (lv_at hL k hl) (kk ls H locs hL hP hD hS)
theorem g_istore (O : Ok X l D z cc own Ts nL R ini) {i : Nat} {x : Int32} (hdg : decode cc pc = .ok (.istore i, 2)) (hn : i < nL) (ks : List Nat) (hl : lv_pick ((i, Value.int x) :: L.filter (fun q => !(q.1 == i) && !(q.1 + 1 == i && q.2.category == 2))) ks = L') (kk : G X u v (pc + 2) L' st ws) : G X u v pc L (.int x :: st) ws := by
  obtain ⟨p, l', e, R', s, m, args, below, meth, c, Q, nL', D', z', A⟩ := X
  obtain ⟨hx, hb, hml, hown, hts, hE, hA, hZ, hlk, rfl, rfl, rfl, rfl, rfl, hin⟩ := O
  intro ls H locs hL hP hD hS
  exact lv_istore hx hb hdg hL hn rfl (fun ls' hl' => kk ls' H locs (lv_sub hl' ks hl) hP hD hS)
theorem g_istore_n (O : Ok X l D z cc own Ts nL R ini) {i : Fin 4} {j : Nat} {x : Int32} (hdg : decode cc pc = .ok (.istore_n i, 1)) (hi : (i : Nat) = j) (hn : j < nL) (ks : List Nat) (hl : lv_pick ((j, Value.int x) :: L.filter (fun q => !(q.1 == j) && !(q.1 + 1 == j && q.2.category == 2))) ks = L') (kk : G X u v (pc + 1) L' st ws) : G X u v pc L (.int x :: st) ws := by
  obtain ⟨p, l', e, R', s, m, args, below, meth, c, Q, nL', D', z', A⟩ := X
  obtain ⟨hx, hb, hml, hown, hts, hE, hA, hZ, hlk, rfl, rfl, rfl, rfl, rfl, hin⟩ := O
  intro ls H locs hL hP hD hS
  exact lv_istore_n hx hb hdg hi hL hn rfl (fun ls' hl' => kk ls' H locs (lv_sub hl' ks hl) hP hD hS)
theorem g_astore_n (O : Ok X l D z cc own Ts nL R ini) {i : Fin 4} {j : Nat} {x : Nat} (hdg : decode cc pc = .ok (.astore_n i, 1)) (hi : (i : Nat) = j) (hn : j < nL) (ks : List Nat) (hl : lv_pick ((j, Value.ref x) :: L.filter (fun q => !(q.1 == j) && !(q.1 + 1 == j && q.2.category == 2))) ks = L') (kk : G X u v (pc + 1) L' st ws) : G X u v pc L (.ref x :: st) ws := by
  obtain ⟨p, l', e, R', s, m, args, below, meth, c, Q, nL', D', z', A⟩ := X
  obtain ⟨hx, hb, hml, hown, hts, hE, hA, hZ, hlk, rfl, rfl, rfl, rfl, rfl, hin⟩ := O
  intro ls H locs hL hP hD hS
  exact lv_astore_n hx hb hdg hi hL hn rfl (fun ls' hl' => kk ls' H locs (lv_sub hl' ks hl) hP hD hS)
theorem g_iinc (O : Ok X l D z cc own Ts nL R ini) {i : Nat} {n : Int} {x y : Int32} (hdg : decode cc pc = .ok (.iinc i n, 3)) (k : Nat) (hk : L[k]? = some (i, .int x)) (hv : x + Int32.ofInt n = y) (hn : i < nL) (ks : List Nat) (hl : lv_pick ((i, Value.int y) :: L.filter (fun q => !(q.1 == i) && !(q.1 + 1 == i && q.2.category == 2))) ks = L') (kk : G X u v (pc + 3) L' st ws) : G X u v pc L st ws := by
  obtain ⟨p, l', e, R', s, m, args, below, meth, c, Q, nL', D', z', A⟩ := X
  obtain ⟨hx, hb, hml, hown, hts, hE, hA, hZ, hlk, rfl, rfl, rfl, rfl, rfl, hin⟩ := O
  intro ls H locs hL hP hD hS
  exact lv_iinc hx hb hdg hL hk hv hn rfl (fun ls' hl' => kk ls' H locs (lv_sub hl' ks hl) hP hD hS)
theorem g_iconst (O : Ok X l D z cc own Ts nL R ini) {n : Int} {x : Int32} (hdg : decode cc pc = .ok (.iconst n, 1)) (hv : Int32.ofInt n = x) (kk : G X u v (pc + 1) L (.int x :: st) ws) : G X u v pc L st ws := by
  obtain ⟨p, l', e, R', s, m, args, below, meth, c, Q, nL', D', z', A⟩ := X
  obtain ⟨hx, hb, hml, hown, hts, hE, hA, hZ, hlk, rfl, rfl, rfl, rfl, rfl, hin⟩ := O
  intro ls H locs hL hP hD hS
  exact lv_iconst hx hb hdg hv (kk ls H locs hL hP hD hS)
theorem g_bipush (O : Ok X l D z cc own Ts nL R ini) {n : Int} {x : Int32} (hdg : decode cc pc = .ok (.bipush n, 2)) (hv : (Int8.ofInt n).toInt32 = x) (kk : G X u v (pc + 2) L (.int x :: st) ws) : G X u v pc L st ws := by
  obtain ⟨p, l', e, R', s, m, args, below, meth, c, Q, nL', D', z', A⟩ := X
  obtain ⟨hx, hb, hml, hown, hts, hE, hA, hZ, hlk, rfl, rfl, rfl, rfl, rfl, hin⟩ := O
  intro ls H locs hL hP hD hS
  exact lv_bipush hx hb hdg hv (kk ls H locs hL hP hD hS)
theorem g_sipush (O : Ok X l D z cc own Ts nL R ini) {n : Int} {x : Int32} (hdg : decode cc pc = .ok (.sipush n, 3)) (hv : (Int16.ofInt n).toInt32 = x) (kk : G X u v (pc + 3) L (.int x :: st) ws) : G X u v pc L st ws := by
  obtain ⟨p, l', e, R', s, m, args, below, meth, c, Q, nL', D', z', A⟩ := X
  obtain ⟨hx, hb, hml, hown, hts, hE, hA, hZ, hlk, rfl, rfl, rfl, rfl, rfl, hin⟩ := O
  intro ls H locs hL hP hD hS
  exact lv_sipush hx hb hdg hv (kk ls H locs hL hP hD hS)
theorem g_goto (O : Ok X l D z cc own Ts nL R ini) {off : Int} {tgt : Nat} (hdg : decode cc pc = .ok (.goto off, 3)) (ht : (pc : Int) + off = (tgt : Int)) (kk : G X u v tgt L st ws) : G X u v pc L st ws := by
  obtain ⟨p, l', e, R', s, m, args, below, meth, c, Q, nL', D', z', A⟩ := X
  obtain ⟨hx, hb, hml, hown, hts, hE, hA, hZ, hlk, rfl, rfl, rfl, rfl, rfl, hin⟩ := O
  intro ls H locs hL hP hD hS
  exact lv_goto hx hb hdg ht (kk ls H locs hL hP hD hS)
theorem g_dup (O : Ok X l D z cc own Ts nL R ini) {va : Value} (hdg : decode cc pc = .ok (.dup, 1)) (hva : va.category = 1) (kk : G X u v (pc + 1) L (va :: va :: st) ws) : G X u v pc L (va :: st) ws := by
  obtain ⟨p, l', e, R', s, m, args, below, meth, c, Q, nL', D', z', A⟩ := X
  obtain ⟨hx, hb, hml, hown, hts, hE, hA, hZ, hlk, rfl, rfl, rfl, rfl, rfl, hin⟩ := O
  intro ls H locs hL hP hD hS
  exact lv_dup hx hb hdg hva (kk ls H locs hL hP hD hS)
/-- what is known at a place may be put otherwise -/
theorem g_perm (is : List Nat) (hs : is.map (fun i => ws[i]?) = ws'.map some) (hn : va_nd is = true) (kk : G X u v pc L st ws') : G X u v pc L st ws := by
  obtain ⟨p, l', e, R', s, m, args, below, meth, c, Q, nL', D', z', A⟩ := X
  intro ls H locs hL hP hD hS
  refine kk ls H locs hL (hP.sub is ?_) (hD.sub is hn hs) hS
  have h1 : (is.map (fun i => ws[i]?)).filterMap id = (ws'.map some).filterMap id := by rw [hs]
  rw [List.filterMap_map, List.filterMap_map] at h1
  simpa using h1
theorem g_locals (ks : List Nat) (hl : lv_pick L ks = L') (kk : G X u v pc L' st ws) : G X u v pc L st ws := by
  obtain ⟨p, l', e, R', s, m, args, below, meth, c, Q, nL', D', z', A⟩ := X
  intro ls H locs hL hP hD hS
  exact kk ls H locs (lv_sub hL ks hl) hP hD hS
theorem g_eq {st' : List Value} (hs : st = st') (hL : L = L') (hw : ws = ws') (kk : G X u v pc L' st' ws') : G X u v pc L st ws := by
  subst hs; subst hL; subst hw; exact kk
theorem g_pc {pc' : Nat} (h : pc = pc') (kk : G X u v pc' L st ws) : G X u v pc L st ws := h ▸ kk
end GR
