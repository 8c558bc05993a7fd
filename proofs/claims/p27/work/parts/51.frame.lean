/-! the frame rule for whole contracts -/
theorem CM.frame {l : Launch} {y : MethodName} {Ts : List Cond} {rm : Room} {D : va_G} {z : Nat × Nat × Nat} {av : List Value} {win : va_W} {post : Option Value → va_W → Prop} {mc ms : Nat} (h : CM l y Ts rm D z av win post mc ms) {ws wr : va_W} {post' : Option Value → va_W → Prop}
    (isC isR : List Nat) (hC : isC.map (fun i => ws[i]?) = win.map some) (hnC : va_nd isC = true) (hR : isR.map (fun i => ws[i]?) = wr.map some) (hnR : va_nd isR = true) (hdis : ∀ i ∈ isR, i ∉ isC)
    (hp : ∀ r w1, post r w1 → ∃ (w' : va_W) (is : List Nat), is.map (fun i => (wr ++ w1)[i]?) = w'.map some ∧ va_nd is = true ∧ post' r w') : CM l y Ts rm D z av ws post' mc ms := by
  intro sz
  have hFs : ∀ q, va_A win sz q → va_A ws sz q := by
    intro q hq
    rcases hq with ⟨k, e, hk⟩ | hq
    · have h1 : (isC.map (fun i => ws[i]?))[k]? = some (some (q, e)) := by rw [hC, List.getElem?_map, hk]; rfl
      rw [List.getElem?_map] at h1
      cases hi : isC[k]? with
      | none => rw [hi] at h1; cases h1
      | some i => rw [hi] at h1; exact Or.inl ⟨i, e, Option.some.inj h1⟩
    · exact Or.inr hq
  refine MetFree.mono (h sz) ?_ (fun _ _ _ _ _ hk => hk) ?_
  · intro a s ⟨e1, e2, hP, hE, hD, hZ⟩
    exact ⟨e1, e2, hP.sub isC (fm_of hC), hE, hD.sub isC hnC hC, hZ.narrow hFs⟩
  · intro a s o t ⟨e1, e2, hP, hE, hD, hZ⟩ ⟨⟨⟨r, u, hoc, hpost, hP1, hD1⟩, hz, hk⟩, L, hFr, hL⟩
    subst e2
    have hDs : va_D (va_A ws s.heap.size) ws := hD.self
    obtain ⟨hP2, hD2⟩ := va_join hP hDs isC isR hC hR hnR hdis hk hFs hP1 hD1
    obtain ⟨w', is, h1, h2, h3⟩ := hp r u hpost
    exact ⟨⟨⟨r, w', hoc, h3, hP2.sub is (fm_of h1), hD2.sub is h2 h1⟩, hz, fun q h4 h5 => hk q h4 (fun g => h5 (hFs q g))⟩, L, hFr, fun q hq => hFs _ (hL q hq)⟩
theorem CM.frameR {l : Launch} {y : MethodName} {Ts : List Cond} {rm : Room} {D : va_G} {z : Nat × Nat × Nat} {av : List Value} {win : va_W} {post : Option Value → va_W → Prop} {mc ms : Nat} (h : CM l y Ts rm D z av win post mc ms) {ws : va_W} {post' : Option Value → va_W → Prop}
    (isC isR : List Nat) (hC : isC.map (fun i => ws[i]?) = win.map some) (hnC : va_nd isC = true) (hR : isR.all (fun i => decide (i < ws.length)) = true) (hnR : va_nd isR = true) (hdis : isR.all (fun i => !isC.contains i) = true)
    (hp : ∀ r w1, post r w1 → ∃ (w' : va_W) (is : List Nat), is.map (fun i => (isR.filterMap (fun i => ws[i]?) ++ w1)[i]?) = w'.map some ∧ va_nd is = true ∧ post' r w') : CM l y Ts rm D z av ws post' mc ms := by
  refine h.frame isC isR hC hnC ?_ hnR ?_ hp
  · clear hp hnR hdis
    induction isR with
    | nil => rfl
    | cons i l ih =>
      rw [List.all_cons, Bool.and_eq_true] at hR
      have hi : i < ws.length := of_decide_eq_true hR.1
      have e : ws[i]? = some ws[i] := List.getElem?_eq_getElem hi
      rw [List.map_cons, List.filterMap_cons, e]
      simp only [List.map_cons]
      rw [ih hR.2]
  · intro i hi hc
    have h1 := List.all_eq_true.mp hdis i hi
    rw [List.contains_iff_mem.mpr hc] at h1
    cases h1
theorem CM.post {l : Launch} {y : MethodName} {Ts : List Cond} {rm : Room} {D : va_G} {z : Nat × Nat × Nat} {av : List Value} {win : va_W} {post post' : Option Value → va_W → Prop} {mc ms : Nat} (h : CM l y Ts rm D z av win post mc ms) (hp : ∀ r w, post r w → post' r w) : CM l y Ts rm D z av win post' mc ms := by
  intro sz
  refine MetFree.mono (h sz) (fun _ _ hh => hh) (fun _ _ _ _ _ hk => hk) ?_
  intro a s o t _ ⟨⟨⟨r, u, hoc, hpost, hP1, hD1⟩, hz⟩, hL⟩
  exact ⟨⟨⟨r, u, hoc, hp r u hpost, hP1, hD1⟩, hz⟩, hL⟩
theorem rangeL {A B : va_W} : (List.range A.length).map (fun i => (A ++ B)[i]?) = A.map some := by
  apply List.ext_getElem?
  intro i
  by_cases h : i < A.length
  · simp [h, List.getElem?_append_left h]
  · simp [h]
theorem rangeR {A B : va_W} : ((List.range B.length).map (fun i => A.length + i)).map (fun i => (A ++ B)[i]?) = B.map some := by
  apply List.ext_getElem?
  intro i
  by_cases h : i < B.length
  · simp [h]
  · simp [h]
theorem nd_range : ∀ n k, va_nd ((List.range n).map (fun i => k + i)) = true := by
  intro n
  induction n with
  | zero => intro k; rfl
  | succ n ih =>
    intro k
    rw [List.range_succ_eq_map, List.map_cons, List.map_map]
    simp only [va_nd, Bool.and_eq_true, decide_eq_true_eq]
    refine ⟨?_, ?_⟩
    · intro h
      obtain ⟨i, -, hi⟩ := List.mem_map.mp h
      simp at hi
    · have := ih (k + 1)
      rw [show ((fun i => k + i) ∘ Nat.succ) = (fun i => k + 1 + i) from funext fun i => by simp [Nat.add_assoc, Nat.add_comm 1]]
      exact this
