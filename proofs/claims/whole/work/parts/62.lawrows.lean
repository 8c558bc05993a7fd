/-! the law: its script, its calls -/
def SX (X : Fx) (bb L : Nat) (xs : Nat → Int32) : Prop := match X with
  | (_, _, _, _, s, _, _, _, _, _, _, _, _, _, A) => va_X bb L xs s s.heap ∧ bb < s.heap.size ∧ ¬ A bb
section GL
variable {X : Fx} {l : Launch} {D : va_G} {z : Nat × Nat × Nat} {cc : ByteArray} {own : String} {Ts : List Cond} {nL : Nat} {R : Room} {ini : Bool} {u v pc : Nat} {L : List (Nat × Value)} {st stk : List Value} {ws : va_W} {y : MethodName} {wsy wsy' : List Cond} {rm : Room} {b : Nat} {As : List Value} {post : Option Value → va_W → Prop} {maxL index : Nat} {bytes : ByteArray} {ret : Option FieldType}
theorem g_sld (O : Ok X l D z cc own Ts nL R ini) {bb K : Nat} {xs : Nat → Int32} (S : SX X bb K xs) {i : Nat} (hi : i < K) (hK : K < 2147483648) (hdg : decode cc pc = .ok (.iaload, 1)) (kk : G X u v (pc + 1) L (.int (xs i) :: st) ws) : G X u v pc L (.int (nI i) :: .ref bb :: st) ws := by
  obtain ⟨p, l', e, R', s, m, args, below, meth, c, Q, nL', D', z', A⟩ := X
  obtain ⟨hx, hb, hml, hown, hts, hE, hA, hZ, hlk, rfl, rfl, rfl, rfl, rfl, hin⟩ := O
  obtain ⟨h1, h2, h3⟩ := S
  intro ls H locs hL hP hD hS
  exact va_sld hx hb h1 h2 h3 hS (vp_in_nI hi hK) hdg (by rw [nI_clamp (Nat.lt_trans hi hK)]; exact kk ls H locs hL hP hD hS)
theorem g_slen (O : Ok X l D z cc own Ts nL R ini) {bb K : Nat} {xs : Nat → Int32} (S : SX X bb K xs) (hdg : decode cc pc = .ok (.arraylength, 1)) (kk : G X u v (pc + 1) L (.int (nI K) :: st) ws) : G X u v pc L (.ref bb :: st) ws := by
  obtain ⟨p, l', e, R', s, m, args, below, meth, c, Q, nL', D', z', A⟩ := X
  obtain ⟨hx, hb, hml, hown, hts, hE, hA, hZ, hlk, rfl, rfl, rfl, rfl, rfl, hin⟩ := O
  obtain ⟨h1, h2, h3⟩ := S
  intro ls H locs hL hP hD hS
  exact va_slen hx hb h1 h2 h3 hS hdg (kk ls H locs hL hP hD hS)
theorem g_callL (O : Ok X l D z cc own Ts nL R ini) {Aw Bw : va_W} (hM : CM l y wsy rm D z (.ref b :: As) Aw post 0 0) (hG : GoodIn Ts (wsV own index y.cls y wsy)) (hw : wsy = Cond.code y bytes maxL ret :: wsy') (hrc : rm.cells = 0) (hrs : rm.slots = 0) (n : Nat) (hd : y.cls ≠ "java/lang/invoke/MethodHandle" ∧ y.cls ≠ "java/lang/invoke/VarHandle" ∧ (parseMethodDescriptor y.desc).map (fun d => d.parameters.length) = some n) (hR : rm.frames + 1 ≤ R.frames ∧ 8 + (maxL + 11) + rm.locals ≤ R.locals) (hcs : u ≤ R.cells ∧ v ≤ R.slots) {ci : Nat} {rC : vw_C} {fs : List Value} (he : Aw[0]? = some (b, .inr (ci, fs))) (hc : vwCl[ci]? = some rC) (hcr : rC.1 = y.cls)
    (hAs : As.length = n) (hstk : stk = As.reverse ++ .ref b :: st) (hW : (st.map fun v => v.category).sum ≤ 8) (hdg : decode cc pc = .ok (.invokevirtual index, 3))
    (kk : ∀ (r : Option Value) (w : va_W), post r w → G X u v (pc + 3) L (r.toList ++ st) (Bw ++ w)) : G X u v pc L stk (Aw ++ Bw) := by
  have h0 : va_nd (List.range Aw.length) = true := by
    have := nd_range Aw.length 0
    rw [show (List.range Aw.length).map (fun i => 0 + i) = List.range Aw.length by simp] at this
    exact this
  refine g_callV O hM hG hw hrc hrs n hd hR ⟨by omega, by omega⟩ (q0 := 0) he hc hcr (List.range Aw.length) ((List.range Bw.length).map (fun i => Aw.length + i)) rangeL h0 rangeR (nd_range _ _) ?_ hAs hstk hW hdg kk
  intro i hi hc2
  obtain ⟨j, -, rfl⟩ := List.mem_map.mp hi
  have := List.mem_range.mp hc2
  omega
end GL
theorem EN_of {s : State} {args : Array Value} (hts : ∀ w ∈ lw_tbl, w.before args s = true) : ∃ D : va_G, EN D s := by
  obtain ⟨c0, i0, k0⟩ := u_known (C := RX0) (T := TX0) (N := 5) (n := 5) hts inX0 (hts (.instantiable RX0 5) (by decide +kernel))
  obtain ⟨c1, i1, k1⟩ := u_known (C := RX1) (T := TX1) (N := 5) (n := 5) hts inX1 (hts (.instantiable RX1 5) (by decide +kernel))
  obtain ⟨c2, i2, k2⟩ := u_known (C := RX2) (T := TX2) (N := 3) (n := 3) hts inX2 (hts (.instantiable RX2 3) (by decide +kernel))
  obtain ⟨c3, i3, k3⟩ := u_known (C := RX3) (T := TX3) (N := 5) (n := 5) hts inX3 (hts (.instantiable RX3 5) (by decide +kernel))
  obtain ⟨c4, i4, k4⟩ := u_known (C := RX4) (T := TX4) (N := 5) (n := 5) hts inX4 (hts (.instantiable RX4 5) (by decide +kernel))
  obtain ⟨c5, i5, k5⟩ := u_known (C := RX5) (T := TX5) (N := 12) (n := 12) hts inX5 (hts (.instantiable RX5 12) (by decide +kernel))
  obtain ⟨c6, i6, k6⟩ := u_known (C := RX6) (T := TX6) (N := 4) (n := 4) hts inX6 (hts (.instantiable RX6 4) (by decide +kernel))
  obtain ⟨c7, i7, k7⟩ := u_known (C := RX7) (T := TX7) (N := 5) (n := 5) hts inX7 (hts (.instantiable RX7 5) (by decide +kernel))
  obtain ⟨c8, i8, k8⟩ := u_known (C := RX8) (T := TX8) (N := 9) (n := 9) hts inX8 (hts (.instantiable RX8 9) (by decide +kernel))
  obtain ⟨c9, i9, k9⟩ := u_known (C := RX9) (T := TX9) (N := 16) (n := 16) hts inX9 (hts (.instantiable RX9 16) (by decide +kernel))
  obtain ⟨ci, ki, pi, f1, f2, f3⟩ := Cond.arrayClass_spec (hts (.arrayClass .int) (by decide +kernel))
  obtain ⟨cz, kz, pz, g1, g2, g3⟩ := Cond.arrayClass_spec (hts (.arrayClass .boolean) (by decide +kernel))
  obtain ⟨ch, kh, ph, h1, h2, h3⟩ := Cond.arrayClass_spec (hts (.arrayClass .char) (by decide +kernel))
  obtain ⟨po, co, ko, o1, o2, o3, o4, o5⟩ := Cond.arrayOver_spec (hts (.arrayOver (.object RX5)) (by decide +kernel))
  refine ⟨(fun k => match k with | 0 => c0 | 1 => c1 | 2 => c2 | 3 => c3 | 4 => c4 | 5 => c5 | 6 => c6 | 7 => c7 | 8 => c8 | 9 => c9 | 10 => ch | 11 => ci | 12 => cz | _ => co, fun k => match k with | 0 => i0 | 1 => i1 | 2 => i2 | 3 => i3 | 4 => i4 | 5 => i5 | 6 => i6 | 7 => i7 | 8 => i8 | _ => i9), ⟨fun k q hq => ?_, fun k q hq => ?_⟩, fun q hq => va_Nw.of rfl (hts _ (NWf_in q hq)), fun q hq => va_Nw.of rfl (hts _ (NWm_in q hq))⟩
  · match k, hq with
    | 0, hq => cases hq; exact k0
    | 1, hq => cases hq; exact k1
    | 2, hq => cases hq; exact k2
    | 3, hq => cases hq; exact k3
    | 4, hq => cases hq; exact k4
    | 5, hq => cases hq; exact k5
    | 6, hq => cases hq; exact k6
    | 7, hq => cases hq; exact k7
    | 8, hq => cases hq; exact k8
    | 9, hq => cases hq; exact k9
    | k + 10, hq => simp [vwCl] at hq
  · match k, hq with
    | 0, hq => cases hq; exact ⟨fun n z => ⟨(fun k h => by cases h), ki, f2, pi, f3⟩, f1⟩
    | 1, hq => cases hq; exact ⟨fun n z => ⟨(fun k h => by cases h), kz, g2, pz, g3⟩, g1⟩
    | 2, hq => cases hq; exact ⟨fun n z => ⟨(fun k h => by cases h), kh, h2, ph, h3⟩, h1⟩
    | 3, hq => cases hq; exact ⟨fun n z => ⟨(fun k h => by cases h), ko, o3, po, o4⟩, ko, po, o3, o4, o1, o5⟩
    | k + 4, hq => simp at hq
theorem ZT_of {s : State} {args : Array Value} {A : Nat → Prop} (hts : ∀ w ∈ lw_tbl, w.before args s = true) (hg : (Jvm.Cond.and given_1 narrow_1).before args s = true) (hA : ∀ a : Nat, a < s.heap.size → ¬ A a) : ∃ z, ZT z A s s.heap := by
  have hf := flat_of_before _ hg
  obtain ⟨zf_, eF, TF⟩ := va_Tof (args := args) (s := s) (tm := .static "BowedPlate" "FIRST_SETTING" "[I") (ty := .int) (N := 4) (f := fun j => .int (zF j)) (A := A) (by decide) (hf _ (by decide +kernel)) (va_eqt (hf _ (by decide +kernel))) (fun j hj => by
    rcases (show j = 0 ∨ j = 1 ∨ j = 2 ∨ j = 3 by omega) with rfl | rfl | rfl | rfl <;> exact va_eqt (hf _ (by decide +kernel))) hA
  obtain ⟨zl_, eL, TL⟩ := va_Tof (args := args) (s := s) (tm := .static "BowedPlate" "LEAST_SETTING" "[I") (ty := .int) (N := 4) (f := fun j => .int (zL j)) (A := A) (by decide) (hf _ (by decide +kernel)) (va_eqt (hf _ (by decide +kernel))) (fun j hj => by
    rcases (show j = 0 ∨ j = 1 ∨ j = 2 ∨ j = 3 by omega) with rfl | rfl | rfl | rfl <;> exact va_eqt (hf _ (by decide +kernel))) hA
  obtain ⟨zm_, eM, TM⟩ := va_Tof (args := args) (s := s) (tm := .static "BowedPlate" "MOST_SETTING" "[I") (ty := .int) (N := 4) (f := fun j => .int (zM j)) (A := A) (by decide) (hf _ (by decide +kernel)) (va_eqt (hf _ (by decide +kernel))) (fun j hj => by
    rcases (show j = 0 ∨ j = 1 ∨ j = 2 ∨ j = 3 by omega) with rfl | rfl | rfl | rfl <;> exact va_eqt (hf _ (by decide +kernel))) hA
  have hini := hts (.initialized "BowedPlate") (by decide +kernel)
  exact ⟨(zf_, zl_, zm_), ⟨va_Zref (hts (.laysStatic "BowedPlate" "FIRST_SETTING" "[I") (by decide +kernel)) hini eF hA, TF⟩, ⟨va_Zref (hts (.laysStatic "BowedPlate" "LEAST_SETTING" "[I") (by decide +kernel)) hini eL hA, TL⟩, ⟨va_Zref (hts (.laysStatic "BowedPlate" "MOST_SETTING" "[I") (by decide +kernel)) hini eM hA, TM⟩⟩
