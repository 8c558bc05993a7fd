/-! the packed walk, its other rows -/
section GR
variable {X : Fx} {l : Launch} {D : va_G} {z : Nat × Nat × Nat} {cc : ByteArray} {own : String} {Ts : List Cond} {nL : Nat} {R : Room} {ini : Bool} {u v pc : Nat} {L L' : List (Nat × Value)} {st : List Value} {ws ws' : va_W}
theorem g_iadd (O : Ok X l D z cc own Ts nL R ini) {x y : Int32} (hdg : decode cc pc = .ok (.iadd, 1)) (kk : G X u v (pc + 1) L (.int (x + y) :: st) ws) : G X u v pc L (.int y :: .int x :: st) ws := by
  obtain ⟨p, l', e, R', s, m, args, below, meth, c, Q, nL', D', z', A⟩ := X
  obtain ⟨hx, hb, hml, hown, hts, hE, hA, hZ, hlk, rfl, rfl, rfl, rfl, rfl, hin⟩ := O
  intro ls H locs hL hP hD hS
  exact lv_iadd hx hb hdg (kk ls H locs hL hP hD hS)
theorem g_isub (O : Ok X l D z cc own Ts nL R ini) {x y : Int32} (hdg : decode cc pc = .ok (.isub, 1)) (kk : G X u v (pc + 1) L (.int (x - y) :: st) ws) : G X u v pc L (.int y :: .int x :: st) ws := by
  obtain ⟨p, l', e, R', s, m, args, below, meth, c, Q, nL', D', z', A⟩ := X
  obtain ⟨hx, hb, hml, hown, hts, hE, hA, hZ, hlk, rfl, rfl, rfl, rfl, rfl, hin⟩ := O
  intro ls H locs hL hP hD hS
  exact lv_isub hx hb hdg (kk ls H locs hL hP hD hS)
theorem g_imul (O : Ok X l D z cc own Ts nL R ini) {x y : Int32} (hdg : decode cc pc = .ok (.imul, 1)) (kk : G X u v (pc + 1) L (.int (x * y) :: st) ws) : G X u v pc L (.int y :: .int x :: st) ws := by
  obtain ⟨p, l', e, R', s, m, args, below, meth, c, Q, nL', D', z', A⟩ := X
  obtain ⟨hx, hb, hml, hown, hts, hE, hA, hZ, hlk, rfl, rfl, rfl, rfl, rfl, hin⟩ := O
  intro ls H locs hL hP hD hS
  exact lv_imul hx hb hdg (kk ls H locs hL hP hD hS)
theorem g_iand (O : Ok X l D z cc own Ts nL R ini) {x y : Int32} (hdg : decode cc pc = .ok (.iand, 1)) (kk : G X u v (pc + 1) L (.int (x &&& y) :: st) ws) : G X u v pc L (.int y :: .int x :: st) ws := by
  obtain ⟨p, l', e, R', s, m, args, below, meth, c, Q, nL', D', z', A⟩ := X
  obtain ⟨hx, hb, hml, hown, hts, hE, hA, hZ, hlk, rfl, rfl, rfl, rfl, rfl, hin⟩ := O
  intro ls H locs hL hP hD hS
  exact lv_iand hx hb hdg (kk ls H locs hL hP hD hS)
theorem g_idiv (O : Ok X l D z cc own Ts nL R ini) {x y : Int32} (hdg : decode cc pc = .ok (.idiv, 1)) (hne : ¬ y = 0) (kk : G X u v (pc + 1) L (.int (x / y) :: st) ws) : G X u v pc L (.int y :: .int x :: st) ws := by
  obtain ⟨p, l', e, R', s, m, args, below, meth, c, Q, nL', D', z', A⟩ := X
  obtain ⟨hx, hb, hml, hown, hts, hE, hA, hZ, hlk, rfl, rfl, rfl, rfl, rfl, hin⟩ := O
  intro ls H locs hL hP hD hS
  exact lv_idiv hx hb hdg hne (kk ls H locs hL hP hD hS)
theorem g_irem (O : Ok X l D z cc own Ts nL R ini) {x y : Int32} (hdg : decode cc pc = .ok (.irem, 1)) (hne : ¬ y = 0) (kk : G X u v (pc + 1) L (.int (x - x / y * y) :: st) ws) : G X u v pc L (.int y :: .int x :: st) ws := by
  obtain ⟨p, l', e, R', s, m, args, below, meth, c, Q, nL', D', z', A⟩ := X
  obtain ⟨hx, hb, hml, hown, hts, hE, hA, hZ, hlk, rfl, rfl, rfl, rfl, rfl, hin⟩ := O
  intro ls H locs hL hP hD hS
  exact lv_irem hx hb hdg hne (kk ls H locs hL hP hD hS)
theorem g_ineg (O : Ok X l D z cc own Ts nL R ini) {x : Int32} (hdg : decode cc pc = .ok (.ineg, 1)) (kk : G X u v (pc + 1) L (.int (-x) :: st) ws) : G X u v pc L (.int x :: st) ws := by
  obtain ⟨p, l', e, R', s, m, args, below, meth, c, Q, nL', D', z', A⟩ := X
  obtain ⟨hx, hb, hml, hown, hts, hE, hA, hZ, hlk, rfl, rfl, rfl, rfl, rfl, hin⟩ := O
  intro ls H locs hL hP hD hS
  exact lv_ineg hx hb hdg (kk ls H locs hL hP hD hS)
theorem g_i2c (O : Ok X l D z cc own Ts nL R ini) {x y : Int32} (hdg : decode cc pc = .ok (.i2c, 1)) (hv : (x.toUInt32 % 65536).toInt32 = y) (kk : G X u v (pc + 1) L (.int y :: st) ws) : G X u v pc L (.int x :: st) ws := by
  obtain ⟨p, l', e, R', s, m, args, below, meth, c, Q, nL', D', z', A⟩ := X
  obtain ⟨hx, hb, hml, hown, hts, hE, hA, hZ, hlk, rfl, rfl, rfl, rfl, rfl, hin⟩ := O
  intro ls H locs hL hP hD hS
  exact lv_i2c hx hb hdg hv (kk ls H locs hL hP hD hS)
theorem g_dup2 (O : Ok X l D z cc own Ts nL R ini) {va vb : Value} (hdg : decode cc pc = .ok (.dup2, 1)) (hva : va.category = 1) (hvb : vb.category = 1) (kk : G X u v (pc + 1) L (va :: vb :: va :: vb :: st) ws) : G X u v pc L (va :: vb :: st) ws := by
  obtain ⟨p, l', e, R', s, m, args, below, meth, c, Q, nL', D', z', A⟩ := X
  obtain ⟨hx, hb, hml, hown, hts, hE, hA, hZ, hlk, rfl, rfl, rfl, rfl, rfl, hin⟩ := O
  intro ls H locs hL hP hD hS
  exact lv_dup2_11 hx hb hdg hva hvb (kk ls H locs hL hP hD hS)
theorem g_iaddN (O : Ok X l D z cc own Ts nL R ini) {a b : Nat} (hdg : decode cc pc = .ok (.iadd, 1)) (kk : G X u v (pc + 1) L (.int (nI (a + b)) :: st) ws) : G X u v pc L (.int (nI b) :: .int (nI a) :: st) ws := g_iadd O hdg (by rw [nI_add]; exact kk)
theorem g_imulN (O : Ok X l D z cc own Ts nL R ini) {a b : Nat} (hdg : decode cc pc = .ok (.imul, 1)) (kk : G X u v (pc + 1) L (.int (nI (a * b)) :: st) ws) : G X u v pc L (.int (nI b) :: .int (nI a) :: st) ws := g_imul O hdg (by rw [pk_mul]; exact kk)
theorem g_isubN (O : Ok X l D z cc own Ts nL R ini) {a b : Nat} (h : b ≤ a) (hdg : decode cc pc = .ok (.isub, 1)) (kk : G X u v (pc + 1) L (.int (nI (a - b)) :: st) ws) : G X u v pc L (.int (nI b) :: .int (nI a) :: st) ws := g_isub O hdg (by rw [pk_sub h]; exact kk)
theorem g_idivN (O : Ok X l D z cc own Ts nL R ini) {a b : Nat} (ha : a < 2147483648) (hb0 : 0 < b) (hb1 : b < 2147483648) (hdg : decode cc pc = .ok (.idiv, 1)) (kk : G X u v (pc + 1) L (.int (nI (a / b)) :: st) ws) : G X u v pc L (.int (nI b) :: .int (nI a) :: st) ws := g_idiv O hdg (nI_ne0 hb0 hb1) (by rw [pk_div ha hb0 hb1]; exact kk)
theorem g_iremN (O : Ok X l D z cc own Ts nL R ini) {a b : Nat} (ha : a < 2147483648) (hb0 : 0 < b) (hb1 : b < 2147483648) (hdg : decode cc pc = .ok (.irem, 1)) (kk : G X u v (pc + 1) L (.int (nI (a % b)) :: st) ws) : G X u v pc L (.int (nI b) :: .int (nI a) :: st) ws := g_irem O hdg (nI_ne0 hb0 hb1) (by rw [pk_rem ha hb0 hb1]; exact kk)
theorem g_iincN (O : Ok X l D z cc own Ts nL R ini) {i : Nat} {x : Nat} (hdg : decode cc pc = .ok (.iinc i 1, 3)) (k : Nat) (hk : L[k]? = some (i, .int (nI x))) (hn : i < nL) (ks : List Nat) (hl : lv_pick ((i, Value.int (nI (x + 1))) :: L.filter (fun q => !(q.1 == i) && !(q.1 + 1 == i && q.2.category == 2))) ks = L') (kk : G X u v (pc + 3) L' st ws) : G X u v pc L st ws := g_iinc O hdg k hk (nI_1 x) hn ks hl kk
theorem g_icmp_eq (O : Ok X l D z cc own Ts nL R ini) {x y : Int32} {off : Int} {tgt : Nat} (hdg : decode cc pc = .ok (.if_icmp .eq off, 3)) (ht : (pc : Int) + off = (tgt : Int)) (kt : x = y → G X u v tgt L st ws) (kf : ¬ x = y → G X u v (pc + 3) L st ws) : G X u v pc L (.int y :: .int x :: st) ws := by
  obtain ⟨p, l', e, R', s, m, args, below, meth, c, Q, nL', D', z', A⟩ := X
  obtain ⟨hx, hb, hml, hown, hts, hE, hA, hZ, hlk, rfl, rfl, rfl, rfl, rfl, hin⟩ := O
  intro ls H locs hL hP hD hS
  exact lv_icmp_eq hx hb hdg ht (fun h => kt h ls H locs hL hP hD hS) (fun h => kf h ls H locs hL hP hD hS)
theorem g_icmp_ne (O : Ok X l D z cc own Ts nL R ini) {x y : Int32} {off : Int} {tgt : Nat} (hdg : decode cc pc = .ok (.if_icmp .ne off, 3)) (ht : (pc : Int) + off = (tgt : Int)) (kt : ¬ x = y → G X u v tgt L st ws) (kf : x = y → G X u v (pc + 3) L st ws) : G X u v pc L (.int y :: .int x :: st) ws := by
  obtain ⟨p, l', e, R', s, m, args, below, meth, c, Q, nL', D', z', A⟩ := X
  obtain ⟨hx, hb, hml, hown, hts, hE, hA, hZ, hlk, rfl, rfl, rfl, rfl, rfl, hin⟩ := O
  intro ls H locs hL hP hD hS
  exact lv_icmp_ne hx hb hdg ht (fun h => kt h ls H locs hL hP hD hS) (fun h => kf h ls H locs hL hP hD hS)
theorem g_icmp_lt (O : Ok X l D z cc own Ts nL R ini) {x y : Int32} {off : Int} {tgt : Nat} (hdg : decode cc pc = .ok (.if_icmp .lt off, 3)) (ht : (pc : Int) + off = (tgt : Int)) (kt : x < y → G X u v tgt L st ws) (kf : ¬ x < y → G X u v (pc + 3) L st ws) : G X u v pc L (.int y :: .int x :: st) ws := by
  obtain ⟨p, l', e, R', s, m, args, below, meth, c, Q, nL', D', z', A⟩ := X
  obtain ⟨hx, hb, hml, hown, hts, hE, hA, hZ, hlk, rfl, rfl, rfl, rfl, rfl, hin⟩ := O
  intro ls H locs hL hP hD hS
  exact lv_icmp_lt hx hb hdg ht (fun h => kt h ls H locs hL hP hD hS) (fun h => kf h ls H locs hL hP hD hS)
theorem g_icmp_ge (O : Ok X l D z cc own Ts nL R ini) {x y : Int32} {off : Int} {tgt : Nat} (hdg : decode cc pc = .ok (.if_icmp .ge off, 3)) (ht : (pc : Int) + off = (tgt : Int)) (kt : y ≤ x → G X u v tgt L st ws) (kf : ¬ y ≤ x → G X u v (pc + 3) L st ws) : G X u v pc L (.int y :: .int x :: st) ws := by
  obtain ⟨p, l', e, R', s, m, args, below, meth, c, Q, nL', D', z', A⟩ := X
  obtain ⟨hx, hb, hml, hown, hts, hE, hA, hZ, hlk, rfl, rfl, rfl, rfl, rfl, hin⟩ := O
  intro ls H locs hL hP hD hS
  exact lv_icmp_ge hx hb hdg ht (fun h => kt h ls H locs hL hP hD hS) (fun h => kf h ls H locs hL hP hD hS)
theorem g_icmp_gt (O : Ok X l D z cc own Ts nL R ini) {x y : Int32} {off : Int} {tgt : Nat} (hdg : decode cc pc = .ok (.if_icmp .gt off, 3)) (ht : (pc : Int) + off = (tgt : Int)) (kt : y < x → G X u v tgt L st ws) (kf : ¬ y < x → G X u v (pc + 3) L st ws) : G X u v pc L (.int y :: .int x :: st) ws := by
  obtain ⟨p, l', e, R', s, m, args, below, meth, c, Q, nL', D', z', A⟩ := X
  obtain ⟨hx, hb, hml, hown, hts, hE, hA, hZ, hlk, rfl, rfl, rfl, rfl, rfl, hin⟩ := O
  intro ls H locs hL hP hD hS
  exact lv_icmp_gt hx hb hdg ht (fun h => kt h ls H locs hL hP hD hS) (fun h => kf h ls H locs hL hP hD hS)
theorem g_icmp_le (O : Ok X l D z cc own Ts nL R ini) {x y : Int32} {off : Int} {tgt : Nat} (hdg : decode cc pc = .ok (.if_icmp .le off, 3)) (ht : (pc : Int) + off = (tgt : Int)) (kt : x ≤ y → G X u v tgt L st ws) (kf : ¬ x ≤ y → G X u v (pc + 3) L st ws) : G X u v pc L (.int y :: .int x :: st) ws := by
  obtain ⟨p, l', e, R', s, m, args, below, meth, c, Q, nL', D', z', A⟩ := X
  obtain ⟨hx, hb, hml, hown, hts, hE, hA, hZ, hlk, rfl, rfl, rfl, rfl, rfl, hin⟩ := O
  intro ls H locs hL hP hD hS
  exact lv_icmp_le hx hb hdg ht (fun h => kt h ls H locs hL hP hD hS) (fun h => kf h ls H locs hL hP hD hS)
theorem g_icmp_eqN (O : Ok X l D z cc own Ts nL R ini) {a b : Nat} (ha1 : a < 2147483648) (hb1 : b < 2147483648) {off : Int} {tgt : Nat} (hdg : decode cc pc = .ok (.if_icmp .eq off, 3)) (ht : (pc : Int) + off = (tgt : Int)) (kt : a = b → G X u v tgt L st ws) (kf : a ≠ b → G X u v (pc + 3) L st ws) : G X u v pc L (.int (nI b) :: .int (nI a) :: st) ws := g_icmp_eq O hdg ht (fun h => kt ((nI_eq ha1 hb1).mp h)) (fun h => kf (fun h2 => h ((nI_eq ha1 hb1).mpr h2)))
theorem g_icmp_neN (O : Ok X l D z cc own Ts nL R ini) {a b : Nat} (ha1 : a < 2147483648) (hb1 : b < 2147483648) {off : Int} {tgt : Nat} (hdg : decode cc pc = .ok (.if_icmp .ne off, 3)) (ht : (pc : Int) + off = (tgt : Int)) (kt : a ≠ b → G X u v tgt L st ws) (kf : a = b → G X u v (pc + 3) L st ws) : G X u v pc L (.int (nI b) :: .int (nI a) :: st) ws := g_icmp_ne O hdg ht (fun h => kt (fun h2 => h ((nI_eq ha1 hb1).mpr h2))) (fun h => kf ((nI_eq ha1 hb1).mp h))
theorem g_icmp_ltN (O : Ok X l D z cc own Ts nL R ini) {a b : Nat} (ha1 : a < 2147483648) (hb1 : b < 2147483648) {off : Int} {tgt : Nat} (hdg : decode cc pc = .ok (.if_icmp .lt off, 3)) (ht : (pc : Int) + off = (tgt : Int)) (kt : a < b → G X u v tgt L st ws) (kf : b ≤ a → G X u v (pc + 3) L st ws) : G X u v pc L (.int (nI b) :: .int (nI a) :: st) ws := g_icmp_lt O hdg ht (fun h => kt ((nI_ltI ha1 hb1).mp h)) (fun h => kf (Nat.le_of_not_lt (fun h2 => h ((nI_ltI ha1 hb1).mpr h2))))
theorem g_icmp_geN (O : Ok X l D z cc own Ts nL R ini) {a b : Nat} (ha1 : a < 2147483648) (hb1 : b < 2147483648) {off : Int} {tgt : Nat} (hdg : decode cc pc = .ok (.if_icmp .ge off, 3)) (ht : (pc : Int) + off = (tgt : Int)) (kt : b ≤ a → G X u v tgt L st ws) (kf : a < b → G X u v (pc + 3) L st ws) : G X u v pc L (.int (nI b) :: .int (nI a) :: st) ws := g_icmp_ge O hdg ht (fun h => kt ((nI_leI hb1 ha1).mp h)) (fun h => kf (Nat.lt_of_not_le (fun h2 => h ((nI_leI hb1 ha1).mpr h2))))
theorem g_icmp_gtN (O : Ok X l D z cc own Ts nL R ini) {a b : Nat} (ha1 : a < 2147483648) (hb1 : b < 2147483648) {off : Int} {tgt : Nat} (hdg : decode cc pc = .ok (.if_icmp .gt off, 3)) (ht : (pc : Int) + off = (tgt : Int)) (kt : b < a → G X u v tgt L st ws) (kf : a ≤ b → G X u v (pc + 3) L st ws) : G X u v pc L (.int (nI b) :: .int (nI a) :: st) ws := g_icmp_gt O hdg ht (fun h => kt ((nI_ltI hb1 ha1).mp h)) (fun h => kf (Nat.le_of_not_lt (fun h2 => h ((nI_ltI hb1 ha1).mpr h2))))
theorem g_icmp_leN (O : Ok X l D z cc own Ts nL R ini) {a b : Nat} (ha1 : a < 2147483648) (hb1 : b < 2147483648) {off : Int} {tgt : Nat} (hdg : decode cc pc = .ok (.if_icmp .le off, 3)) (ht : (pc : Int) + off = (tgt : Int)) (kt : a ≤ b → G X u v tgt L st ws) (kf : b < a → G X u v (pc + 3) L st ws) : G X u v pc L (.int (nI b) :: .int (nI a) :: st) ws := g_icmp_le O hdg ht (fun h => kt ((nI_leI ha1 hb1).mp h)) (fun h => kf (Nat.lt_of_not_le (fun h2 => h ((nI_leI ha1 hb1).mpr h2))))
theorem g_if_eq (O : Ok X l D z cc own Ts nL R ini) {x : Int32} {off : Int} {tgt : Nat} (hdg : decode cc pc = .ok (.ifCond .eq off, 3)) (ht : (pc : Int) + off = (tgt : Int)) (kt : x = 0 → G X u v tgt L st ws) (kf : ¬ x = 0 → G X u v (pc + 3) L st ws) : G X u v pc L (.int x :: st) ws := by
  obtain ⟨p, l', e, R', s, m, args, below, meth, c, Q, nL', D', z', A⟩ := X
  obtain ⟨hx, hb, hml, hown, hts, hE, hA, hZ, hlk, rfl, rfl, rfl, rfl, rfl, hin⟩ := O
  intro ls H locs hL hP hD hS
  exact lv_if_eq hx hb hdg ht (fun h => kt h ls H locs hL hP hD hS) (fun h => kf h ls H locs hL hP hD hS)
theorem g_if_ne (O : Ok X l D z cc own Ts nL R ini) {x : Int32} {off : Int} {tgt : Nat} (hdg : decode cc pc = .ok (.ifCond .ne off, 3)) (ht : (pc : Int) + off = (tgt : Int)) (kt : ¬ x = 0 → G X u v tgt L st ws) (kf : x = 0 → G X u v (pc + 3) L st ws) : G X u v pc L (.int x :: st) ws := by
  obtain ⟨p, l', e, R', s, m, args, below, meth, c, Q, nL', D', z', A⟩ := X
  obtain ⟨hx, hb, hml, hown, hts, hE, hA, hZ, hlk, rfl, rfl, rfl, rfl, rfl, hin⟩ := O
  intro ls H locs hL hP hD hS
  exact lv_if_ne hx hb hdg ht (fun h => kt h ls H locs hL hP hD hS) (fun h => kf h ls H locs hL hP hD hS)
theorem g_if_lt (O : Ok X l D z cc own Ts nL R ini) {x : Int32} {off : Int} {tgt : Nat} (hdg : decode cc pc = .ok (.ifCond .lt off, 3)) (ht : (pc : Int) + off = (tgt : Int)) (kt : x < 0 → G X u v tgt L st ws) (kf : ¬ x < 0 → G X u v (pc + 3) L st ws) : G X u v pc L (.int x :: st) ws := by
  obtain ⟨p, l', e, R', s, m, args, below, meth, c, Q, nL', D', z', A⟩ := X
  obtain ⟨hx, hb, hml, hown, hts, hE, hA, hZ, hlk, rfl, rfl, rfl, rfl, rfl, hin⟩ := O
  intro ls H locs hL hP hD hS
  exact lv_if_lt hx hb hdg ht (fun h => kt h ls H locs hL hP hD hS) (fun h => kf h ls H locs hL hP hD hS)
theorem g_if_ge (O : Ok X l D z cc own Ts nL R ini) {x : Int32} {off : Int} {tgt : Nat} (hdg : decode cc pc = .ok (.ifCond .ge off, 3)) (ht : (pc : Int) + off = (tgt : Int)) (kt : 0 ≤ x → G X u v tgt L st ws) (kf : ¬ 0 ≤ x → G X u v (pc + 3) L st ws) : G X u v pc L (.int x :: st) ws := by
  obtain ⟨p, l', e, R', s, m, args, below, meth, c, Q, nL', D', z', A⟩ := X
  obtain ⟨hx, hb, hml, hown, hts, hE, hA, hZ, hlk, rfl, rfl, rfl, rfl, rfl, hin⟩ := O
  intro ls H locs hL hP hD hS
  exact lv_if_ge hx hb hdg ht (fun h => kt h ls H locs hL hP hD hS) (fun h => kf h ls H locs hL hP hD hS)
theorem g_if_gt (O : Ok X l D z cc own Ts nL R ini) {x : Int32} {off : Int} {tgt : Nat} (hdg : decode cc pc = .ok (.ifCond .gt off, 3)) (ht : (pc : Int) + off = (tgt : Int)) (kt : 0 < x → G X u v tgt L st ws) (kf : ¬ 0 < x → G X u v (pc + 3) L st ws) : G X u v pc L (.int x :: st) ws := by
  obtain ⟨p, l', e, R', s, m, args, below, meth, c, Q, nL', D', z', A⟩ := X
  obtain ⟨hx, hb, hml, hown, hts, hE, hA, hZ, hlk, rfl, rfl, rfl, rfl, rfl, hin⟩ := O
  intro ls H locs hL hP hD hS
  exact lv_if_gt hx hb hdg ht (fun h => kt h ls H locs hL hP hD hS) (fun h => kf h ls H locs hL hP hD hS)
theorem g_if_le (O : Ok X l D z cc own Ts nL R ini) {x : Int32} {off : Int} {tgt : Nat} (hdg : decode cc pc = .ok (.ifCond .le off, 3)) (ht : (pc : Int) + off = (tgt : Int)) (kt : x ≤ 0 → G X u v tgt L st ws) (kf : ¬ x ≤ 0 → G X u v (pc + 3) L st ws) : G X u v pc L (.int x :: st) ws := by
  obtain ⟨p, l', e, R', s, m, args, below, meth, c, Q, nL', D', z', A⟩ := X
  obtain ⟨hx, hb, hml, hown, hts, hE, hA, hZ, hlk, rfl, rfl, rfl, rfl, rfl, hin⟩ := O
  intro ls H locs hL hP hD hS
  exact lv_if_le hx hb hdg ht (fun h => kt h ls H locs hL hP hD hS) (fun h => kf h ls H locs hL hP hD hS)
theorem nI_z {a : Nat} (h : a < 2147483648) : nI a = 0 ↔ a = 0 := by rw [← nI_0]; exact nI_eq h (by omega)
theorem nI_le0 {a : Nat} (h : a < 2147483648) : nI a ≤ 0 ↔ a = 0 := by rw [← nI_0, nI_leI h (by omega)]; omega
theorem nI_lt0 {a : Nat} (h : a < 2147483648) : 0 < nI a ↔ 0 < a := by rw [← nI_0, nI_ltI (by omega) h]
theorem g_if_eqN (O : Ok X l D z cc own Ts nL R ini) {a : Nat} (ha1 : a < 2147483648) {off : Int} {tgt : Nat} (hdg : decode cc pc = .ok (.ifCond .eq off, 3)) (ht : (pc : Int) + off = (tgt : Int)) (kt : a = 0 → G X u v tgt L st ws) (kf : 0 < a → G X u v (pc + 3) L st ws) : G X u v pc L (.int (nI a) :: st) ws := g_if_eq O hdg ht (fun h => kt ((nI_z ha1).mp h)) (fun h => kf (Nat.pos_of_ne_zero (fun h2 => h ((nI_z ha1).mpr h2))))
theorem g_if_neN (O : Ok X l D z cc own Ts nL R ini) {a : Nat} (ha1 : a < 2147483648) {off : Int} {tgt : Nat} (hdg : decode cc pc = .ok (.ifCond .ne off, 3)) (ht : (pc : Int) + off = (tgt : Int)) (kt : 0 < a → G X u v tgt L st ws) (kf : a = 0 → G X u v (pc + 3) L st ws) : G X u v pc L (.int (nI a) :: st) ws := g_if_ne O hdg ht (fun h => kt (Nat.pos_of_ne_zero (fun h2 => h ((nI_z ha1).mpr h2)))) (fun h => kf ((nI_z ha1).mp h))
theorem g_if_leN (O : Ok X l D z cc own Ts nL R ini) {a : Nat} (ha1 : a < 2147483648) {off : Int} {tgt : Nat} (hdg : decode cc pc = .ok (.ifCond .le off, 3)) (ht : (pc : Int) + off = (tgt : Int)) (kt : a = 0 → G X u v tgt L st ws) (kf : 0 < a → G X u v (pc + 3) L st ws) : G X u v pc L (.int (nI a) :: st) ws := g_if_le O hdg ht (fun h => kt ((nI_le0 ha1).mp h)) (fun h => kf (Nat.pos_of_ne_zero (fun h2 => h ((nI_le0 ha1).mpr h2))))
theorem g_if_gtN (O : Ok X l D z cc own Ts nL R ini) {a : Nat} (ha1 : a < 2147483648) {off : Int} {tgt : Nat} (hdg : decode cc pc = .ok (.ifCond .gt off, 3)) (ht : (pc : Int) + off = (tgt : Int)) (kt : 0 < a → G X u v tgt L st ws) (kf : a = 0 → G X u v (pc + 3) L st ws) : G X u v pc L (.int (nI a) :: st) ws := g_if_gt O hdg ht (fun h => kt ((nI_lt0 ha1).mp h)) (fun h => kf (Nat.eq_zero_of_not_pos (fun h2 => h ((nI_lt0 ha1).mpr h2))))
theorem g_if_geN (O : Ok X l D z cc own Ts nL R ini) {a : Nat} (ha1 : a < 2147483648) {off : Int} {tgt : Nat} (hdg : decode cc pc = .ok (.ifCond .ge off, 3)) (ht : (pc : Int) + off = (tgt : Int)) (kt : G X u v tgt L st ws) : G X u v pc L (.int (nI a) :: st) ws := g_if_ge O hdg ht (fun h => kt) (fun h => absurd (nI_pos' ha1) h)
theorem g_if_ltN (O : Ok X l D z cc own Ts nL R ini) {a : Nat} (ha1 : a < 2147483648) {off : Int} {tgt : Nat} (hdg : decode cc pc = .ok (.ifCond .lt off, 3)) (ht : (pc : Int) + off = (tgt : Int)) (kf : G X u v (pc + 3) L st ws) : G X u v pc L (.int (nI a) :: st) ws := g_if_lt O hdg ht (fun h => absurd h (nI_pos ha1)) (fun h => kf)
def bB (b : Bool) : Int32 := if b then 1 else 0
theorem bB_0 (b : Bool) : bB b = 0 ↔ b = false := by cases b <;> simp [bB]
theorem bB_1 (b : Bool) : bB b = 1 ↔ b = true := by cases b <;> simp [bB]
theorem bB_n (b : Bool) : vp_nar .boolean (bB b) = bB b := by cases b <;> decide +kernel
theorem bB_nn (b : Bool) : narrow .boolean (.int (bB b)) = .int (bB b) := by cases b <;> decide +kernel
theorem bB_fit (b : Bool) : fits .boolean (.int (bB b)) = true := by cases b <;> decide +kernel
theorem g_if_eqB (O : Ok X l D z cc own Ts nL R ini) {b : Bool} {off : Int} {tgt : Nat} (hdg : decode cc pc = .ok (.ifCond .eq off, 3)) (ht : (pc : Int) + off = (tgt : Int)) (kt : b = false → G X u v tgt L st ws) (kf : b = true → G X u v (pc + 3) L st ws) : G X u v pc L (.int (bB b) :: st) ws := g_if_eq O hdg ht (fun h => kt ((bB_0 b).mp h)) (fun h => kf (by cases b <;> simp_all [bB]))
theorem g_if_neB (O : Ok X l D z cc own Ts nL R ini) {b : Bool} {off : Int} {tgt : Nat} (hdg : decode cc pc = .ok (.ifCond .ne off, 3)) (ht : (pc : Int) + off = (tgt : Int)) (kt : b = true → G X u v tgt L st ws) (kf : b = false → G X u v (pc + 3) L st ws) : G X u v pc L (.int (bB b) :: st) ws := g_if_ne O hdg ht (fun h => kt (by cases b <;> simp_all [bB])) (fun h => kf ((bB_0 b).mp h))
theorem g_iald (O : Ok X l D z cc own Ts nL R ini) {a n : Nat} {f : Nat → Int32} {i : Int32} (q0 : Nat) (ha : ws[q0]? = some (a, .inl ((TY D)[0].1, n, .inl f))) (hi : vp_in i n) (hdg : decode cc pc = .ok (.iaload, 1)) (kk : G X u v (pc + 1) L (.int (f i.toNatClampNeg) :: st) ws) : G X u v pc L (.int i :: .ref a :: st) ws := by
  obtain ⟨p, l', e, R', s, m, args, below, meth, c, Q, nL', D', z', A⟩ := X
  obtain ⟨hx, hb, hml, hown, hts, hE, hA, hZ, hlk, rfl, rfl, rfl, rfl, rfl, hin⟩ := O
  intro ls H locs hL hP hD hS
  exact va_iald hx hb hE.1 hP q0 0 ha rfl hi hdg (kk ls H locs hL hP hD hS)
theorem g_ialdN (O : Ok X l D z cc own Ts nL R ini) {a n : Nat} {f : Nat → Int32} {i : Nat} (q0 : Nat) (ha : ws[q0]? = some (a, .inl ((TY D)[0].1, n, .inl f))) (hi : i < n) (hn : n < 2147483648) (hdg : decode cc pc = .ok (.iaload, 1)) (kk : G X u v (pc + 1) L (.int (f i) :: st) ws) : G X u v pc L (.int (nI i) :: .ref a :: st) ws := g_iald O q0 ha (vp_in_nI hi hn) hdg (by rw [nI_clamp (Nat.lt_trans hi hn)]; exact kk)
theorem g_zald (O : Ok X l D z cc own Ts nL R ini) {a n : Nat} {f : Nat → Int32} {i : Int32} (q0 : Nat) (ha : ws[q0]? = some (a, .inl ((TY D)[1].1, n, .inl f))) (hi : vp_in i n) (hdg : decode cc pc = .ok (.baload, 1)) (kk : G X u v (pc + 1) L (.int (f i.toNatClampNeg) :: st) ws) : G X u v pc L (.int i :: .ref a :: st) ws := by
  obtain ⟨p, l', e, R', s, m, args, below, meth, c, Q, nL', D', z', A⟩ := X
  obtain ⟨hx, hb, hml, hown, hts, hE, hA, hZ, hlk, rfl, rfl, rfl, rfl, rfl, hin⟩ := O
  intro ls H locs hL hP hD hS
  exact va_zald hx hb hE.1 hP q0 1 ha rfl hi hdg (kk ls H locs hL hP hD hS)
theorem g_zaldN (O : Ok X l D z cc own Ts nL R ini) {a n : Nat} {f : Nat → Int32} {i : Nat} (q0 : Nat) (ha : ws[q0]? = some (a, .inl ((TY D)[1].1, n, .inl f))) (hi : i < n) (hn : n < 2147483648) (hdg : decode cc pc = .ok (.baload, 1)) (kk : G X u v (pc + 1) L (.int (f i) :: st) ws) : G X u v pc L (.int (nI i) :: .ref a :: st) ws := g_zald O q0 ha (vp_in_nI hi hn) hdg (by rw [nI_clamp (Nat.lt_trans hi hn)]; exact kk)
theorem g_cald (O : Ok X l D z cc own Ts nL R ini) {a n : Nat} {f : Nat → Int32} {i : Int32} (q0 : Nat) (ha : ws[q0]? = some (a, .inl ((TY D)[2].1, n, .inl f))) (hi : vp_in i n) (hdg : decode cc pc = .ok (.caload, 1)) (kk : G X u v (pc + 1) L (.int (f i.toNatClampNeg) :: st) ws) : G X u v pc L (.int i :: .ref a :: st) ws := by
  obtain ⟨p, l', e, R', s, m, args, below, meth, c, Q, nL', D', z', A⟩ := X
  obtain ⟨hx, hb, hml, hown, hts, hE, hA, hZ, hlk, rfl, rfl, rfl, rfl, rfl, hin⟩ := O
  intro ls H locs hL hP hD hS
  exact va_cald hx hb hE.1 hP q0 2 ha rfl hi hdg (kk ls H locs hL hP hD hS)
theorem g_caldN (O : Ok X l D z cc own Ts nL R ini) {a n : Nat} {f : Nat → Int32} {i : Nat} (q0 : Nat) (ha : ws[q0]? = some (a, .inl ((TY D)[2].1, n, .inl f))) (hi : i < n) (hn : n < 2147483648) (hdg : decode cc pc = .ok (.caload, 1)) (kk : G X u v (pc + 1) L (.int (f i) :: st) ws) : G X u v pc L (.int (nI i) :: .ref a :: st) ws := g_cald O q0 ha (vp_in_nI hi hn) hdg (by rw [nI_clamp (Nat.lt_trans hi hn)]; exact kk)
theorem f_in {x y : Value} (h : x = y) : y = x := h.symm
theorem g_iast (O : Ok X l D z cc own Ts nL R ini) {a n : Nat} {f f' : Nat → Int32} {i x : Int32} (q0 : Nat) (ha : ws[q0]? = some (a, .inl ((TY D)[0].1, n, .inl f))) (hi : vp_in i n) (hdg : decode cc pc = .ok (.iastore, 1)) (hf : upd f i.toNatClampNeg x = f') (hw : ws.set q0 (a, .inl ((TY D)[0].1, n, .inl f')) = ws') (kk : G X u v (pc + 1) L st ws') : G X u v pc L (.int x :: .int i :: .ref a :: st) ws := by
  obtain ⟨p, l', e, R', s, m, args, below, meth, c, Q, nL', D', z', A⟩ := X
  obtain ⟨hx, hb, hml, hown, hts, hE, hA, hZ, hlk, rfl, rfl, rfl, rfl, rfl, hin⟩ := O
  intro ls H locs hL hP hD hS
  subst hw
  subst hf
  exact va_iast hx hb hE.1 hP hD hS q0 0 ha rfl hi hdg (fun H1 locs1 hP1 hD1 hS1 => kk ls H1 locs1 hL hP1 hD1 hS1)
theorem g_iastN (O : Ok X l D z cc own Ts nL R ini) {a n : Nat} {f f' : Nat → Int32} {i : Nat} {x : Int32} (q0 : Nat) (ha : ws[q0]? = some (a, .inl ((TY D)[0].1, n, .inl f))) (hi : i < n) (hn : n < 2147483648) (hdg : decode cc pc = .ok (.iastore, 1)) (hf : upd f i x = f') (hw : ws.set q0 (a, .inl ((TY D)[0].1, n, .inl f')) = ws') (kk : G X u v (pc + 1) L st ws') : G X u v pc L (.int x :: .int (nI i) :: .ref a :: st) ws := g_iast O q0 ha (vp_in_nI hi hn) hdg (by rw [nI_clamp (Nat.lt_trans hi hn)]; exact hf) hw kk
theorem g_zast (O : Ok X l D z cc own Ts nL R ini) {a n : Nat} {f f' : Nat → Int32} {i x : Int32} (q0 : Nat) (ha : ws[q0]? = some (a, .inl ((TY D)[1].1, n, .inl f))) (hi : vp_in i n) (hdg : decode cc pc = .ok (.bastore, 1)) (hf : upd f i.toNatClampNeg (vp_nar .boolean x) = f') (hw : ws.set q0 (a, .inl ((TY D)[1].1, n, .inl f')) = ws') (kk : G X u v (pc + 1) L st ws') : G X u v pc L (.int x :: .int i :: .ref a :: st) ws := by
  obtain ⟨p, l', e, R', s, m, args, below, meth, c, Q, nL', D', z', A⟩ := X
  obtain ⟨hx, hb, hml, hown, hts, hE, hA, hZ, hlk, rfl, rfl, rfl, rfl, rfl, hin⟩ := O
  intro ls H locs hL hP hD hS
  subst hw
  subst hf
  exact va_zast hx hb hE.1 hP hD hS q0 1 ha rfl hi hdg (fun H1 locs1 hP1 hD1 hS1 => kk ls H1 locs1 hL hP1 hD1 hS1)
theorem g_zastN (O : Ok X l D z cc own Ts nL R ini) {a n : Nat} {f f' : Nat → Int32} {i : Nat} {x : Int32} (q0 : Nat) (ha : ws[q0]? = some (a, .inl ((TY D)[1].1, n, .inl f))) (hi : i < n) (hn : n < 2147483648) (hdg : decode cc pc = .ok (.bastore, 1)) (hf : upd f i (vp_nar .boolean x) = f') (hw : ws.set q0 (a, .inl ((TY D)[1].1, n, .inl f')) = ws') (kk : G X u v (pc + 1) L st ws') : G X u v pc L (.int x :: .int (nI i) :: .ref a :: st) ws := g_zast O q0 ha (vp_in_nI hi hn) hdg (by rw [nI_clamp (Nat.lt_trans hi hn)]; exact hf) hw kk
theorem g_cast (O : Ok X l D z cc own Ts nL R ini) {a n : Nat} {f f' : Nat → Int32} {i x : Int32} (q0 : Nat) (ha : ws[q0]? = some (a, .inl ((TY D)[2].1, n, .inl f))) (hi : vp_in i n) (hdg : decode cc pc = .ok (.castore, 1)) (hf : upd f i.toNatClampNeg (vp_nar .char x) = f') (hw : ws.set q0 (a, .inl ((TY D)[2].1, n, .inl f')) = ws') (kk : G X u v (pc + 1) L st ws') : G X u v pc L (.int x :: .int i :: .ref a :: st) ws := by
  obtain ⟨p, l', e, R', s, m, args, below, meth, c, Q, nL', D', z', A⟩ := X
  obtain ⟨hx, hb, hml, hown, hts, hE, hA, hZ, hlk, rfl, rfl, rfl, rfl, rfl, hin⟩ := O
  intro ls H locs hL hP hD hS
  subst hw
  subst hf
  exact va_cast hx hb hE.1 hP hD hS q0 2 ha rfl hi hdg (fun H1 locs1 hP1 hD1 hS1 => kk ls H1 locs1 hL hP1 hD1 hS1)
theorem g_castN (O : Ok X l D z cc own Ts nL R ini) {a n : Nat} {f f' : Nat → Int32} {i : Nat} {x : Int32} (q0 : Nat) (ha : ws[q0]? = some (a, .inl ((TY D)[2].1, n, .inl f))) (hi : i < n) (hn : n < 2147483648) (hdg : decode cc pc = .ok (.castore, 1)) (hf : upd f i (vp_nar .char x) = f') (hw : ws.set q0 (a, .inl ((TY D)[2].1, n, .inl f')) = ws') (kk : G X u v (pc + 1) L st ws') : G X u v pc L (.int x :: .int (nI i) :: .ref a :: st) ws := g_cast O q0 ha (vp_in_nI hi hn) hdg (by rw [nI_clamp (Nat.lt_trans hi hn)]; exact hf) hw kk
theorem g_get (O : Ok X l D z cc own Ts nL R ini) {C : String} {T : u_T} {N ci index a : Nat} {fs : List Value} {w : Value} (hi : ∀ w ∈ u_ws C T N, w ∈ Ts) (q0 : Nat) (he : ws[q0]? = some (a, .inr (ci, fs))) (hc : vwCl[ci]? = some (C, T, N)) (k : Nat) (hk : k < N) (hlink : Cond.fieldLink own index (T k).1 (T k).2.1 (T k).2.2.1 ∈ Ts) (hv : fs[k]? = some w) (hdg : decode cc pc = .ok (.getfield index, 3)) (kk : G X u v (pc + 3) L (w :: st) ws) : G X u v pc L (.ref a :: st) ws := by
  obtain ⟨p, l', e, R', s, m, args, below, meth, c, Q, nL', D', z', A⟩ := X
  obtain ⟨hx, hb, hml, hown, hts, hE, hA, hZ, hlk, rfl, rfl, rfl, rfl, rfl, hin⟩ := O
  intro ls H locs hL hP hD hS
  exact va_get hx hb hts hi hown hE.1 hP q0 he hc k hk (hts _ hlink) (fun _ h => h) hv hdg (kk ls H locs hL hP hD hS)
theorem g_getN (O : Ok X l D z cc own Ts nL R ini) {C : String} {T : u_T} {N ci index a : Nat} {host : String} {fs : List Value} {w : Value} (hi : ∀ w ∈ u_ws C T N, w ∈ Ts) (q0 : Nat) (he : ws[q0]? = some (a, .inr (ci, fs))) (hc : vwCl[ci]? = some (C, T, N)) (k : Nat) (hk : k < N) (j : Nat) (hlink : NWf[j]? = some (own, index, (T k).1, (T k).2.1, (T k).2.2.1, host)) (hv : fs[k]? = some w) (hdg : decode cc pc = .ok (.getfield index, 3)) (kk : G X u v (pc + 3) L (w :: st) ws) : G X u v pc L (.ref a :: st) ws := by
  obtain ⟨p, l', e, R', s, m, args, below, meth, c, Q, nL', D', z', A⟩ := X
  obtain ⟨hx, hb, hml, hown, hts, hE, hA, hZ, hlk, rfl, rfl, rfl, rfl, rfl, hin⟩ := O
  intro ls H locs hL hP hD hS
  exact va_getN hx hb hts hi hown hE.1 hP q0 he hc k hk (va_Nw.use rfl (hE.2.1 _ (List.mem_of_getElem? hlink))) (fun _ h => h) hv hdg (kk ls H locs hL hP hD hS)
theorem g_put (O : Ok X l D z cc own Ts nL R ini) {C : String} {T : u_T} {N ci index a : Nat} {fs : List Value} {w : Value} {ty : FieldType} (hi : ∀ w ∈ u_ws C T N, w ∈ Ts) (ty0 : Nat → FieldType) (hty : ∀ k, k < N → parseFieldDescriptor (T k).2.2.1 = some (ty0 k)) (hnm : ∀ a, a < N → ∀ b, b < N → a ≠ b → (T a).2.1 ≠ (T b).2.1) (q0 : Nat) (he : ws[q0]? = some (a, .inr (ci, fs))) (hc : vwCl[ci]? = some (C, T, N)) (k : Nat) (hk : k < N) (hlink : Cond.fieldLink own index (T k).1 (T k).2.1 (T k).2.2.1 ∈ Ts) (hfin : (T k).2.2.2 = false) (hd : parseFieldDescriptor (T k).2.2.1 = some ty) (hn : narrow ty w = w) (hfit : fits ty w = true) (hl : k < fs.length) (hdg : decode cc pc = .ok (.putfield index, 3)) (hw : ws.set q0 (a, .inr (ci, fs.set k w)) = ws') (kk : G X u v (pc + 3) L st ws') : G X u v pc L (w :: .ref a :: st) ws := by
  obtain ⟨p, l', e, R', s, m, args, below, meth, c, Q, nL', D', z', A⟩ := X
  obtain ⟨hx, hb, hml, hown, hts, hE, hA, hZ, hlk, rfl, rfl, rfl, rfl, rfl, hin⟩ := O
  intro ls H locs hL hP hD hS
  subst hw
  exact va_put hx hb hts hi ty0 hty hnm hown hE.1 hP hD hS q0 he hc k hk (hts _ hlink) (fun _ h => h) hfin hd hn hfit hl hdg (fun H1 locs1 hP1 hD1 hS1 => kk ls H1 locs1 hL hP1 hD1 hS1)
theorem g_putN (O : Ok X l D z cc own Ts nL R ini) {C : String} {T : u_T} {N ci index a : Nat} {host : String} {fs : List Value} {w : Value} {ty : FieldType} (hi : ∀ w ∈ u_ws C T N, w ∈ Ts) (ty0 : Nat → FieldType) (hty : ∀ k, k < N → parseFieldDescriptor (T k).2.2.1 = some (ty0 k)) (hnm : ∀ a, a < N → ∀ b, b < N → a ≠ b → (T a).2.1 ≠ (T b).2.1) (q0 : Nat) (he : ws[q0]? = some (a, .inr (ci, fs))) (hc : vwCl[ci]? = some (C, T, N)) (k : Nat) (hk : k < N) (j : Nat) (hlink : NWf[j]? = some (own, index, (T k).1, (T k).2.1, (T k).2.2.1, host)) (hfin : (T k).2.2.2 = false) (hd : parseFieldDescriptor (T k).2.2.1 = some ty) (hn : narrow ty w = w) (hfit : fits ty w = true) (hl : k < fs.length) (hdg : decode cc pc = .ok (.putfield index, 3)) (hw : ws.set q0 (a, .inr (ci, fs.set k w)) = ws') (kk : G X u v (pc + 3) L st ws') : G X u v pc L (w :: .ref a :: st) ws := by
  obtain ⟨p, l', e, R', s, m, args, below, meth, c, Q, nL', D', z', A⟩ := X
  obtain ⟨hx, hb, hml, hown, hts, hE, hA, hZ, hlk, rfl, rfl, rfl, rfl, rfl, hin⟩ := O
  intro ls H locs hL hP hD hS
  subst hw
  exact va_putN hx hb hts hi ty0 hty hnm hown hE.1 hP hD hS q0 he hc k hk (va_Nw.use rfl (hE.2.1 _ (List.mem_of_getElem? hlink))) (fun _ h => h) hfin hd hn hfit hl hdg (fun H1 locs1 hP1 hD1 hS1 => kk ls H1 locs1 hL hP1 hD1 hS1)
theorem g_putF (O : Ok X l D z cc own Ts nL R ini) {C : String} {T : u_T} {N ci index a : Nat} {fs : List Value} {w : Value} {ty : FieldType} (hi : ∀ w ∈ u_ws C T N, w ∈ Ts) (ty0 : Nat → FieldType) (hty : ∀ k, k < N → parseFieldDescriptor (T k).2.2.1 = some (ty0 k)) (hnm : ∀ a, a < N → ∀ b, b < N → a ≠ b → (T a).2.1 ≠ (T b).2.1) (q0 : Nat) (he : ws[q0]? = some (a, .inr (ci, fs))) (hc : vwCl[ci]? = some (C, T, N)) (k : Nat) (hk : k < N) (hlink : Cond.fieldLink own index (T k).1 (T k).2.1 (T k).2.2.1 ∈ Ts) (hfin : (T k).2.2.2 = true) (hdecl : (T k).1 = own) (hini : ini = true) (hd : parseFieldDescriptor (T k).2.2.1 = some ty) (hn : narrow ty w = w) (hfit : fits ty w = true) (hl : k < fs.length) (hdg : decode cc pc = .ok (.putfield index, 3)) (hw : ws.set q0 (a, .inr (ci, fs.set k w)) = ws') (kk : G X u v (pc + 3) L st ws') : G X u v pc L (w :: .ref a :: st) ws := by
  obtain ⟨p, l', e, R', s, m, args, below, meth, c, Q, nL', D', z', A⟩ := X
  obtain ⟨hx, hb, hml, hown, hts, hE, hA, hZ, hlk, rfl, rfl, rfl, rfl, rfl, hin⟩ := O
  intro ls H locs hL hP hD hS
  subst hw
  exact va_putF hx hb hts hi ty0 hty hnm hown hE.1 hP hD hS q0 he hc k hk (hts _ hlink) (fun _ h => h) hfin (hin hini) hdecl hd hn hfit hl hdg (fun H1 locs1 hP1 hD1 hS1 => kk ls H1 locs1 hL hP1 hD1 hS1)
theorem g_new (O : Ok X l D z cc own Ts nL R ini) {C : String} {T : u_T} {N ci index : Nat} {fs : List Value} (hi : ∀ w ∈ u_ws C T N, w ∈ Ts) (ty : Nat → FieldType) (hty : ∀ k, k < N → parseFieldDescriptor (T k).2.2.1 = some (ty k)) (hcl : Cond.classLink own index C ∈ Ts) (hinst : Cond.instantiable C N ∈ Ts) (hini : Cond.initialized C ∈ Ts) (hc : vwCl[ci]? = some (C, T, N)) (hfs : ∀ j, j < N → defaultValue (ty j) = vp_V fs j) (hcells : u + 1 ≤ R.cells) (hslots : v + N ≤ R.slots) (hdg : decode cc pc = .ok (.new index, 3)) (kk : ∀ q : Nat, G X (u + 1) (v + N) (pc + 3) L (.ref q :: st) (ws ++ [(q, .inr (ci, fs))])) : G X u v pc L st ws := by
  obtain ⟨p, l', e, R', s, m, args, below, meth, c, Q, nL', D', z', A⟩ := X
  obtain ⟨hx, hb, hml, hown, hts, hE, hA, hZ, hlk, rfl, rfl, rfl, rfl, rfl, hin⟩ := O
  intro ls H locs hL hP hD hS
  exact va_new hx hb hts hi ty hty hown (hts _ hcl) (hts _ hinst) (hts _ hini) hE.1 hP hD hS hA hc hfs hcells hslots hdg (fun q H1 hP1 hD1 hS1 => kk q ls H1 locs hL hP1 hD1 hS1)
theorem TY_one {D : va_G} {s : State} {cA : ClassId} {ty : FieldType} {k : Nat} {c : ClassId} (hK : va_K D vwCl (TY D ++ [(cA, ty)]) s) (hk : (TY D)[k]? = some (c, ty)) (hp : ∀ C, ty ≠ .object C) : cA = c := by
  have h1 := (hK.2 4 (cA, ty) rfl).2
  have h2 := (hK.2 k (c, ty) (by rw [List.getElem?_append_left (List.getElem?_eq_some_iff.mp hk).1]; exact hk)).2
  cases ty with
  | object C => exact absurd rfl (hp C)
  | _ => exact Option.some.inj (h1.symm.trans h2)
theorem g_newI (O : Ok X l D z cc own Ts nL R ini) {n : Int32} {N : Nat} (harr : Cond.arrayClass .int ∈ Ts) (hn : ¬ n < 0) (hN : n.toNatClampNeg = N) (hbytes : N * componentBytes .int ≤ 536870912) (hcells : u + 1 ≤ R.cells) (hslots : v + N ≤ R.slots) (hdg : decode cc pc = .ok (.newarray .int, 2)) (kk : ∀ q : Nat, G X (u + 1) (v + N) (pc + 2) L (.ref q :: st) (ws ++ [(q, .inl ((TY D)[0].1, N, .inl (fun _ => 0)))])) : G X u v pc L (.int n :: st) ws := by
  obtain ⟨p, l', e, R', s, m, args, below, meth, c, Q, nL', D', z', A⟩ := X
  obtain ⟨hx, hb, hml, hown, hts, hE, hA, hZ, hlk, rfl, rfl, rfl, rfl, rfl, hin⟩ := O
  intro ls H locs hL hP hD hS
  refine va_newa (atype := .int) (ty := .int) (a0 := (N, .inl (fun _ => 0))) hx hb (hts _ harr) rfl hE.1 hP hD hS hA (fun cA => rfl) hn hN hbytes hcells hslots hdg (fun q cA H1 hK1 hP1 hD1 hS1 => ?_)
  have hc := TY_one (k := 0) hK1 rfl (fun C h => by cases h)
  subst hc
  exact kk q ls H1 locs hL hP1 hD1 hS1
theorem g_newZ (O : Ok X l D z cc own Ts nL R ini) {n : Int32} {N : Nat} (harr : Cond.arrayClass .boolean ∈ Ts) (hn : ¬ n < 0) (hN : n.toNatClampNeg = N) (hbytes : N * componentBytes .boolean ≤ 536870912) (hcells : u + 1 ≤ R.cells) (hslots : v + N ≤ R.slots) (hdg : decode cc pc = .ok (.newarray .boolean, 2)) (kk : ∀ q : Nat, G X (u + 1) (v + N) (pc + 2) L (.ref q :: st) (ws ++ [(q, .inl ((TY D)[1].1, N, .inl (fun _ => 0)))])) : G X u v pc L (.int n :: st) ws := by
  obtain ⟨p, l', e, R', s, m, args, below, meth, c, Q, nL', D', z', A⟩ := X
  obtain ⟨hx, hb, hml, hown, hts, hE, hA, hZ, hlk, rfl, rfl, rfl, rfl, rfl, hin⟩ := O
  intro ls H locs hL hP hD hS
  refine va_newa (atype := .boolean) (ty := .boolean) (a0 := (N, .inl (fun _ => 0))) hx hb (hts _ harr) rfl hE.1 hP hD hS hA (fun cA => rfl) hn hN hbytes hcells hslots hdg (fun q cA H1 hK1 hP1 hD1 hS1 => ?_)
  have hc := TY_one (k := 1) hK1 rfl (fun C h => by cases h)
  subst hc
  exact kk q ls H1 locs hL hP1 hD1 hS1
theorem g_newC (O : Ok X l D z cc own Ts nL R ini) {n : Int32} {N : Nat} (harr : Cond.arrayClass .char ∈ Ts) (hn : ¬ n < 0) (hN : n.toNatClampNeg = N) (hbytes : N * componentBytes .char ≤ 536870912) (hcells : u + 1 ≤ R.cells) (hslots : v + N ≤ R.slots) (hdg : decode cc pc = .ok (.newarray .char, 2)) (kk : ∀ q : Nat, G X (u + 1) (v + N) (pc + 2) L (.ref q :: st) (ws ++ [(q, .inl ((TY D)[2].1, N, .inl (fun _ => 0)))])) : G X u v pc L (.int n :: st) ws := by
  obtain ⟨p, l', e, R', s, m, args, below, meth, c, Q, nL', D', z', A⟩ := X
  obtain ⟨hx, hb, hml, hown, hts, hE, hA, hZ, hlk, rfl, rfl, rfl, rfl, rfl, hin⟩ := O
  intro ls H locs hL hP hD hS
  refine va_newa (atype := .char) (ty := .char) (a0 := (N, .inl (fun _ => 0))) hx hb (hts _ harr) rfl hE.1 hP hD hS hA (fun cA => rfl) hn hN hbytes hcells hslots hdg (fun q cA H1 hK1 hP1 hD1 hS1 => ?_)
  have hc := TY_one (k := 2) hK1 rfl (fun C h => by cases h)
  subst hc
  exact kk q ls H1 locs hL hP1 hD1 hS1
end GR
