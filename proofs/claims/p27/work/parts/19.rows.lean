/-! the packed walk: switches, rows seen otherwise; ranges -/
section GX
variable {X : Fx} {l : Launch} {D : va_G} {z : Nat × Nat × Nat} {cc : ByteArray} {own : String} {Ts : List Cond} {nL : Nat} {R : Room} {ini : Bool} {u v pc : Nat} {L L' : List (Nat × Value)} {st : List Value} {ws ws' : va_W}
theorem arrV_eq {cA : ClassId} {n : Nat} {f f' : Nat → Int32} (h : ∀ j, j < n → f j = f' j) : vp_cell cA (n, .inl f) = vp_cell cA (n, .inl f') := by
  show arrV cA n (fun j => .int (f j)) = arrV cA n (fun j => .int (f' j))
  unfold arrV
  congr 1
  exact congrArg Array.ofFn (funext fun j => congrArg Value.int (h j.val j.isLt))
theorem g_arr {a n : Nat} {cA : ClassId} {f f' : Nat → Int32} (q0 : Nat) (ha : ws[q0]? = some (a, .inl (cA, n, .inl f))) (h : ∀ j, j < n → f j = f' j) (hw : ws.set q0 (a, .inl (cA, n, .inl f')) = ws') (kk : G X u v pc L st ws') : G X u v pc L st ws := by
  obtain ⟨p, l', e, R', s, m, args, below, meth, c, Q, nL', D', z', A⟩ := X
  intro ls H locs hL hP hD hS
  subst hw
  refine kk ls H locs hL ?_ (hD.set ha) hS
  intro k q hq
  have hlt : q0 < ws.length := (List.getElem?_eq_some_iff.mp ha).1
  by_cases hk : q0 = k
  · subst hk
    rw [List.getElem?_set_self hlt] at hq
    cases hq
    have h1 : H[a]? = some (vp_cell cA (n, .inl f)) := hP q0 _ ha
    show H[a]? = some (vp_cell cA (n, .inl f'))
    rw [h1, arrV_eq h]
  · rw [List.getElem?_set_ne hk] at hq
    exact hP k q hq
theorem g_tableIn (O : Ok X l D z cc own Ts nL R ini) {dflt lo hi : Int} {offs : Array Int} {len : Nat} {x : Int32} {off : Int} {tgt : Nat} (hdg : decode cc pc = .ok (.tableswitch dflt lo hi offs, len)) (h1 : ¬ x.toInt < lo) (h2 : ¬ hi < x.toInt) (ho : offs[(x.toInt - lo).toNat]? = some off) (ht : (pc : Int) + off = (tgt : Int)) (kk : G X u v tgt L st ws) : G X u v pc L (.int x :: st) ws := by
  obtain ⟨p, l', e, R', s, m, args, below, meth, c, Q, nL', D', z', A⟩ := X
  obtain ⟨hx, hb, hml, hown, hts, hE, hA, hZ, hlk, rfl, rfl, rfl, rfl, rfl, hin⟩ := O
  intro ls H locs hL hP hD hS
  exact lv_tableIn hx hb hdg h1 h2 ho ht (kk ls H locs hL hP hD hS)
theorem g_tableO (O : Ok X l D z cc own Ts nL R ini) {dflt hi : Int} {offs : Array Int} {len N : Nat} {x : Int32} {tgt : Nat} (hdg : decode cc pc = .ok (.tableswitch dflt 0 hi offs, len)) (hx : x < 0 ∨ nI N ≤ x) (hN : N < 2147483648) (hh : hi + 1 = N) (ht : (pc : Int) + dflt = (tgt : Int)) (kk : G X u v tgt L st ws) : G X u v pc L (.int x :: st) ws := by
  have hz : x.toInt < 0 ∨ hi < x.toInt := by
    rcases hx with h | h
    · exact Or.inl (by have := Int32.lt_iff_toInt_lt.mp h; simpa using this)
    · refine Or.inr ?_
      have := Int32.le_iff_toInt_le.mp h
      rw [nI_toInt hN] at this
      omega
  obtain ⟨p, l', e, R', s, m, args, below, meth, c, Q, nL', D', z', A⟩ := X
  obtain ⟨hx, hb, hml, hown, hts, hE, hA, hZ, hlk, rfl, rfl, rfl, rfl, rfl, hin⟩ := O
  intro ls H locs hL hP hD hS
  exact lv_tableOut hx hb hdg hz ht (kk ls H locs hL hP hD hS)
theorem g_lookup (O : Ok X l D z cc own Ts nL R ini) {dflt : Int} {ps : Array (Int × Int)} {len : Nat} {x : Int32} {off : Int} {tgt : Nat} (hdg : decode cc pc = .ok (.lookupswitch dflt ps, len)) (hp : (ps.toList.zip (ps.toList.drop 1)).all (fun (a, next) => a.1 < next.1) = true) (ho : Op.lookupswitch.offset ps.toList dflt x.toInt = off) (ht : (pc : Int) + off = (tgt : Int)) (kk : G X u v tgt L st ws) : G X u v pc L (.int x :: st) ws := by
  obtain ⟨p, l', e, R', s, m, args, below, meth, c, Q, nL', D', z', A⟩ := X
  obtain ⟨hx, hb, hml, hown, hts, hE, hA, hZ, hlk, rfl, rfl, rfl, rfl, rfl, hin⟩ := O
  intro ls H locs hL hP hD hS
  exact lv_lookup hx hb hdg hp ho ht (kk ls H locs hL hP hD hS)
end GX
/-- x is a Nat below n -/
def rgB (x : Int32) (n : Nat) : Bool := !decide (x < 0) && !decide (nI n ≤ x)
theorem rgB_nI {w n : Nat} (hw : w < 2147483648) (hn : n < 2147483648) : rgB (nI w) n = decide (w < n) := by
  unfold rgB
  rw [decide_eq_false (nI_pos hw), ← decide_not]
  simp only [Bool.not_false, Bool.true_and]
  by_cases h : w < n
  · rw [decide_eq_true h, decide_eq_true (by rw [nI_leI hn hw]; omega)]
  · rw [decide_eq_false h, decide_eq_false (by rw [nI_leI hn hw]; omega)]
theorem rgB_t {w n : Nat} (h : w < n) (hn : n < 2147483648) : rgB (nI w) n = true := by rw [rgB_nI (by omega) hn]; exact decide_eq_true h
theorem rgB_iff {x : Int32} {n : Nat} (hn : n < 2147483648) : rgB x n = true ↔ ∃ j, j < n ∧ x = nI j := by
  constructor
  · intro h
    rcases ix_c x hn with (hx | hx) | hx
    · simp [rgB, hx] at h
    · simp [rgB, hx] at h
    · exact hx
  · rintro ⟨j, hj, rfl⟩; exact rgB_t hj hn
theorem rgB_neg {x : Int32} {n : Nat} (h : x < 0) : rgB x n = false := by simp [rgB, h]
theorem rgB_f {x : Int32} {n : Nat} (h : rgB x n = false) (hn : n < 2147483648) : x < 0 ∨ nI n ≤ x := by
  rcases ix_c x hn with hx | ⟨j, hj, rfl⟩
  · exact hx
  · rw [rgB_t hj hn] at h; cases h
theorem rgB_of {x : Int32} {n : Nat} (h : ¬ x < 0) (h2 : ¬ nI n ≤ x) : rgB x n = true := by simp only [rgB]; rw [decide_eq_false h, decide_eq_false h2]; rfl
theorem rgB_ge {x : Int32} {n : Nat} (h : nI n ≤ x) : rgB x n = false := by simp only [rgB]; rw [decide_eq_true h]; simp
