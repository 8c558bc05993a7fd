/-! the frame rule by a mask: which cells a contract takes out of a long world -/
def sel : List Bool → va_W → va_W
  | true :: m, x :: l => x :: sel m l
  | false :: m, _ :: l => sel m l
  | _, _ => []
def rst : List Bool → va_W → va_W
  | true :: m, _ :: l => rst m l
  | false :: m, x :: l => x :: rst m l
  | _, _ => []
def mrg : List Bool → va_W → va_W → va_W
  | true :: m, _ :: l, y :: w => y :: mrg m l w
  | false :: m, x :: l, w => x :: mrg m l w
  | _, _, _ => []
def selI : List Bool → va_W → Nat → List Nat
  | true :: m, _ :: l, k => k :: selI m l (k + 1)
  | false :: m, _ :: l, k => selI m l (k + 1)
  | _, _, _ => []
def rstI : List Bool → va_W → Nat → List Nat
  | true :: m, _ :: l, k => rstI m l (k + 1)
  | false :: m, _ :: l, k => k :: rstI m l (k + 1)
  | _, _, _ => []
def mrgI : List Bool → va_W → va_W → Nat → Nat → List Nat
  | true :: m, _ :: l, _ :: w, r, c => c :: mrgI m l w r (c + 1)
  | false :: m, _ :: l, w, r, c => r :: mrgI m l w (r + 1) c
  | _, _, _, _, _ => []
theorem at_len {α : Type} {A B : List α} {q : α} : (A ++ q :: B)[A.length]? = some q := by
  rw [List.getElem?_append_right (Nat.le_refl _), Nat.sub_self]; rfl
theorem selI_m : ∀ (m : List Bool) (l pre : va_W), (selI m l pre.length).map (fun i => (pre ++ l)[i]?) = (sel m l).map some := by
  intro m
  induction m with
  | nil => intro l pre; cases l <;> rfl
  | cons b m ih =>
    intro l pre
    cases l with
    | nil => cases b <;> rfl
    | cons x l =>
      have h := ih l (pre ++ [x])
      rw [List.append_assoc, List.length_append] at h
      cases b
      · exact h
      · show (pre ++ x :: l)[pre.length]? :: (selI m l (pre.length + 1)).map _ = some x :: (sel m l).map some
        rw [at_len]; exact congrArg _ h
theorem rstI_m : ∀ (m : List Bool) (l pre : va_W), (rstI m l pre.length).map (fun i => (pre ++ l)[i]?) = (rst m l).map some := by
  intro m
  induction m with
  | nil => intro l pre; cases l <;> rfl
  | cons b m ih =>
    intro l pre
    cases l with
    | nil => cases b <;> rfl
    | cons x l =>
      have h := ih l (pre ++ [x])
      rw [List.append_assoc, List.length_append] at h
      cases b
      · show (pre ++ x :: l)[pre.length]? :: (rstI m l (pre.length + 1)).map _ = some x :: (rst m l).map some
        rw [at_len]; exact congrArg _ h
      · exact h
theorem selI_ge : ∀ (m : List Bool) (l : va_W) (k i : Nat), i ∈ selI m l k → k ≤ i := by
  intro m
  induction m with
  | nil => intro l k i h; cases l <;> cases h
  | cons b m ih =>
    intro l k i h
    cases l with
    | nil => cases b <;> cases h
    | cons x l =>
      cases b
      · have := ih l (k + 1) i h; omega
      · rcases List.mem_cons.mp (show i ∈ k :: selI m l (k + 1) from h) with h | h
        · omega
        · have := ih l (k + 1) i h; omega
theorem rstI_ge : ∀ (m : List Bool) (l : va_W) (k i : Nat), i ∈ rstI m l k → k ≤ i := by
  intro m
  induction m with
  | nil => intro l k i h; cases l <;> cases h
  | cons b m ih =>
    intro l k i h
    cases l with
    | nil => cases b <;> cases h
    | cons x l =>
      cases b
      · rcases List.mem_cons.mp (show i ∈ k :: rstI m l (k + 1) from h) with h | h
        · omega
        · have := ih l (k + 1) i h; omega
      · have := ih l (k + 1) i h; omega
theorem nd_c {k : Nat} {l : List Nat} (h1 : ¬ k ∈ l) (h2 : va_nd l = true) : va_nd (k :: l) = true := by
  simp only [va_nd, Bool.and_eq_true, decide_eq_true_eq]
  exact ⟨h1, h2⟩
theorem selI_nd : ∀ (m : List Bool) (l : va_W) (k : Nat), va_nd (selI m l k) = true := by
  intro m
  induction m with
  | nil => intro l k; cases l <;> rfl
  | cons b m ih =>
    intro l k
    cases l with
    | nil => cases b <;> rfl
    | cons x l =>
      cases b
      · exact ih l (k + 1)
      · exact nd_c (fun h => by have := selI_ge m l (k + 1) k h; omega) (ih l (k + 1))
theorem rstI_nd : ∀ (m : List Bool) (l : va_W) (k : Nat), va_nd (rstI m l k) = true := by
  intro m
  induction m with
  | nil => intro l k; cases l <;> rfl
  | cons b m ih =>
    intro l k
    cases l with
    | nil => cases b <;> rfl
    | cons x l =>
      cases b
      · exact nd_c (fun h => by have := rstI_ge m l (k + 1) k h; omega) (ih l (k + 1))
      · exact ih l (k + 1)
theorem rst_dis : ∀ (m : List Bool) (l : va_W) (k : Nat), ∀ i ∈ rstI m l k, i ∉ selI m l k := by
  intro m
  induction m with
  | nil => intro l k i h; cases l <;> cases h
  | cons b m ih =>
    intro l k i h
    cases l with
    | nil => cases b <;> cases h
    | cons x l =>
      cases b
      · rcases List.mem_cons.mp (show i ∈ k :: rstI m l (k + 1) from h) with h | h
        · intro h2
          have := selI_ge m l (k + 1) i h2
          omega
        · exact ih l (k + 1) i h
      · intro h2
        rcases List.mem_cons.mp (show i ∈ k :: selI m l (k + 1) from h2) with h2 | h2
        · have := rstI_ge m l (k + 1) i h; omega
        · exact ih l (k + 1) i h h2
theorem mrgI_m : ∀ (m : List Bool) (l w pa pb : va_W), (mrgI m l w pa.length ((pa ++ rst m l).length + pb.length)).map (fun i => ((pa ++ rst m l) ++ (pb ++ w))[i]?) = (mrg m l w).map some := by
  intro m
  induction m with
  | nil => intro l w pa pb; cases l <;> rfl
  | cons b m ih =>
    intro l w pa pb
    cases l with
    | nil => cases b <;> rfl
    | cons x l =>
      cases b
      · have h := ih l w (pa ++ [x]) pb
        rw [show pa ++ [x] ++ rst m l = pa ++ (x :: rst m l) from by rw [List.append_assoc]; rfl, show (pa ++ [x]).length = pa.length + 1 from by rw [List.length_append]; rfl] at h
        show ((pa ++ (x :: rst m l)) ++ (pb ++ w))[pa.length]? :: (mrgI m l w (pa.length + 1) ((pa ++ (x :: rst m l)).length + pb.length)).map _ = some x :: (mrg m l w).map some
        rw [show ((pa ++ (x :: rst m l)) ++ (pb ++ w))[pa.length]? = some x from by rw [List.append_assoc, List.cons_append, at_len]]
        exact congrArg _ h
      · cases w with
        | nil => rfl
        | cons y w =>
          have h := ih l w pa (pb ++ [y])
          rw [show pb ++ [y] ++ w = pb ++ (y :: w) from by rw [List.append_assoc]; rfl, show (pb ++ [y]).length = pb.length + 1 from by rw [List.length_append]; rfl] at h
          show ((pa ++ rst m l) ++ (pb ++ (y :: w)))[(pa ++ rst m l).length + pb.length]? :: (mrgI m l w pa.length ((pa ++ rst m l).length + pb.length + 1)).map _ = some y :: (mrg m l w).map some
          rw [show ((pa ++ rst m l) ++ (pb ++ (y :: w)))[(pa ++ rst m l).length + pb.length]? = some y from by rw [← List.append_assoc, ← List.length_append, at_len]]
          exact congrArg _ h
theorem mrgI_in : ∀ (m : List Bool) (l w : va_W) (r c i : Nat), i ∈ mrgI m l w r c → (r ≤ i ∧ i < r + (rst m l).length) ∨ c ≤ i := by
  intro m
  induction m with
  | nil => intro l w r c i h; cases l <;> cases h
  | cons b m ih =>
    intro l w r c i h
    cases l with
    | nil => cases b <;> cases h
    | cons x l =>
      cases b
      · have e : (rst (false :: m) (x :: l)).length = (rst m l).length + 1 := rfl
        rw [e]
        rcases List.mem_cons.mp (show i ∈ r :: mrgI m l w (r + 1) c from h) with h | h
        · omega
        · have := ih l w (r + 1) c i h; omega
      · have e : (rst (true :: m) (x :: l)).length = (rst m l).length := rfl
        rw [e]
        cases w with
        | nil => cases h
        | cons y w =>
          rcases List.mem_cons.mp (show i ∈ c :: mrgI m l w r (c + 1) from h) with h | h
          · omega
          · have := ih l w r (c + 1) i h; omega
theorem mrgI_nd : ∀ (m : List Bool) (l w : va_W) (r c : Nat), r + (rst m l).length ≤ c → va_nd (mrgI m l w r c) = true := by
  intro m
  induction m with
  | nil => intro l w r c _; cases l <;> rfl
  | cons b m ih =>
    intro l w r c hc
    cases l with
    | nil => cases b <;> rfl
    | cons x l =>
      cases b
      · have e : (rst (false :: m) (x :: l)).length = (rst m l).length + 1 := rfl
        rw [e] at hc
        exact nd_c (fun h => by have := mrgI_in m l w (r + 1) c r h; omega) (ih l w (r + 1) c (by omega))
      · have e : (rst (true :: m) (x :: l)).length = (rst m l).length := rfl
        rw [e] at hc
        cases w with
        | nil => rfl
        | cons y w => exact nd_c (fun h => by have := mrgI_in m l w r (c + 1) c h; omega) (ih l w r (c + 1) (by omega))
theorem pick_all {w : va_W} : ∀ (is : List Nat), is.all (fun i => decide (i < w.length)) = true → is.map (fun i => w[i]?) = (is.filterMap (fun i => w[i]?)).map some := by
  intro is
  induction is with
  | nil => intro _; rfl
  | cons i l ih =>
    intro hR
    rw [List.all_cons, Bool.and_eq_true] at hR
    have hi : i < w.length := of_decide_eq_true hR.1
    have e : w[i]? = some w[i] := List.getElem?_eq_getElem hi
    rw [List.map_cons, List.filterMap_cons, e]
    simp only [List.map_cons]
    rw [ih hR.2]
theorem CM.mask {l : Launch} {y : MethodName} {Ts : List Cond} {rm : Room} {D : va_G} {z : Nat × Nat × Nat} {av : List Value} {win : va_W} {post : Option Value → va_W → Prop} {mc ms : Nat} (h : CM l y Ts rm D z av win post mc ms) {ws : va_W} {post' : Option Value → va_W → Prop}
    (m : List Bool) (isC : List Nat) (hC : isC.map (fun i => (sel m ws)[i]?) = win.map some) (hnC : va_nd isC = true)
    (hp : ∀ r w1, post r w1 → ∃ is : List Nat, is.all (fun i => decide (i < w1.length)) = true ∧ va_nd is = true ∧ post' r (mrg m ws (is.filterMap (fun i => w1[i]?)))) : CM l y Ts rm D z av ws post' mc ms := by
  have h1 : CM l y Ts rm D z av (sel m ws) (fun r w2 => post' r (mrg m ws w2)) mc ms :=
    h.frame (wr := []) isC [] hC hnC rfl rfl (fun i hi => by cases hi) (fun r w1 hq => by
      obtain ⟨is, g1, g2, g3⟩ := hp r w1 hq
      exact ⟨_, is, pick_all is g1, g2, g3⟩)
  have s1 := selI_m m ws []
  have s2 := rstI_m m ws []
  refine h1.frame (selI m ws 0) (rstI m ws 0) s1 (selI_nd _ _ _) s2 (rstI_nd _ _ _) (rst_dis _ _ _) (fun r w2 hq => ⟨mrg m ws w2, mrgI m ws w2 0 (rst m ws).length, ?_, mrgI_nd _ _ _ _ _ (by omega), hq⟩)
  exact mrgI_m m ws w2 [] []
