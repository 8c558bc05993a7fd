/-! the property's law: what it needs of the plate -/
def OKT (s : SV) : Prop := (∀ k, k < 4 → ¬ sv_se s k < 0) ∧ (∀ i j, i < j → j < sv_nc s → ¬ (sv_cc s i = sv_cc s j ∧ sv_cr s i = sv_cr s j)) ∧ nI (smN (sv_g s) 144) = sv_st s - sv_sw s - sv_fl s
def IW (Bd : Nat) (P : PS) : Prop := IV Bd P ∧ OKT (p_s P) ∧ ∀ k, k < p_hd P → OKT (p_h P k)
theorem OKT_SE {s t : SV} (h : OKT s) (e : SE s t) : OKT t := by
  obtain ⟨h1, h2, h3⟩ := h
  obtain ⟨e1, e2, e3, e4, e5, e6, e7, e8, e9, e10, e11, e12⟩ := e
  refine ⟨fun k hk => ?_, fun i j hij hj => ?_, ?_⟩
  · rw [← e2 k hk]; exact h1 k hk
  · have a1 := e10 i (by omega)
    have a2 := e10 j hj
    rw [← a1.1, ← a1.2, ← a2.1, ← a2.2]; exact h2 i j hij (by omega)
  · rw [← e3, ← e4, ← e5, ← smN_eq e1]; exact h3
theorem OKT_g {s t : SV} (h : OKT s) (e : sv_se t = sv_se s ∧ sv_nc t = sv_nc s ∧ sv_cc t = sv_cc s ∧ sv_cr t = sv_cr s ∧ sv_g t = sv_g s ∧ sv_st t = sv_st s ∧ sv_sw t = sv_sw s ∧ sv_fl t = sv_fl s) : OKT t := by
  obtain ⟨e1, e2, e3, e4, e5, e6, e7, e8⟩ := e
  unfold OKT
  rw [e1, e2, e3, e4, e5, e6, e7, e8]
  exact h
theorem IW_up {B B' : Nat} {P : PS} (h : IW B P) (hb : B ≤ B') : IW B' P := ⟨IV_up h.1 hb, h.2.1, h.2.2⟩
theorem IW_rec {B : Nat} {P : PS} {s : SV} (h : IW B P) (hs : OKS B s) (ht : OKT s) : IW B (recP P s) := by
  refine ⟨IV_rec h.1 hs, ht, fun k hk => ?_⟩
  have hk : k < rhN (p_hd P) := hk
  rw [rec_h h.1.2.1 h.1.2.2.1 hk]
  split
  · exact OKT_SE h.2.1 (cp_SE _ _ h.1.1.1)
  · rename_i hne
    split
    · rename_i h44
      have e2 : rhN (p_hd P) = 4 := by rw [h44]; rfl
      exact h.2.2 (k + 1) (by omega)
    · rename_i h44
      have e2 : rhN (p_hd P) = p_hd P + 1 := if_neg h44
      exact h.2.2 k (by omega)
theorem IW_undo {B : Nat} {P : PS} (h : IW B P) (h0 : 0 < p_hd P) : IW B (mkP (cpS (p_s P) (p_h P (p_hd P - 1))) (p_sl P) (p_o P) (p_hd P - 1) (p_sn P) (p_hs P) (p_tx P) (p_tl P) (p_tc P) (p_tf P) (p_ta P) (p_tk P) (p_tn P)) := by
  have hk := h.1.2.2.2.1 (p_hd P - 1) (by omega)
  refine ⟨⟨OKS_SE hk (cp_SE _ _ hk.1), h.1.2.1, (by show p_hd P - 1 ≤ 4; have := h.1.2.2.1; omega), (fun k hk2 => by have hk2 : k < p_hd P - 1 := hk2; exact h.1.2.2.2.1 k (by omega)), h.1.2.2.2.2.1, h.1.2.2.2.2.2⟩, OKT_SE (h.2.2 (p_hd P - 1) (by omega)) (cp_SE _ _ hk.1), fun k hk2 => ?_⟩
  have hk2 : k < p_hd P - 1 := hk2
  exact h.2.2 k (by omega)
/-! whole numbers of 32 bits -/
theorem i32_s (a b c q : Int32) : a - b - c + q = a + q - b - c := by
  simp only [Int32.sub_eq_add_neg]; ac_rfl
theorem i32_nn (a b : Int32) : a - b + b = a := by
  rw [Int32.sub_eq_add_neg, Int32.add_assoc, Int32.add_left_neg, Int32.add_zero]
theorem i32_nn2 (a b : Int32) : a + b - b = a := by
  rw [Int32.sub_eq_add_neg, Int32.add_assoc, Int32.add_comm b, Int32.add_left_neg, Int32.add_zero]
theorem i32_f {x y a b f g : Int32} (h : x + g = y + f) (h2 : y = a - b - f) : x = a - b - g := by
  have h3 : x + g = a - b := by rw [h, h2, i32_nn]
  rw [← h3, i32_nn2]
theorem i32_w {s a b f k : Int32} (h : s = a - b - f) : k = a + k - (b + s) - f := by
  have h1 : s + f = a - b := by rw [h, i32_nn]
  have h2 : a = s + f + b := by rw [h1, i32_nn]
  have h3 : a + k - (b + s) = k + f := by
    rw [h2, show s + f + b + k = (k + f) + (b + s) by ac_rfl, i32_nn2]
  rw [h3, i32_nn2]
/-! sums -/
theorem smN_addf {a b : Nat → Nat} (m : Nat) : smN (fun j => a j + b j) m = smN a m + smN b m := by
  induction m with
  | zero => rfl
  | succ m ih => simp only [smN]; rw [ih]; omega
theorem smN_swap (f : Nat → Nat → Nat) (m : Nat) : ∀ n, smN (fun i => smN (fun j => f i j) m) n = smN (fun j => smN (fun i => f i j) n) m := by
  intro n
  induction n with
  | zero => exact (smN_z (fun _ _ => rfl)).symm
  | succ n ih =>
    show smN (fun i => smN (fun j => f i j) m) n + smN (fun j => f n j) m = smN (fun j => smN (fun i => f i j) n + f n j) m
    rw [ih, smN_addf]
def rwN (g : Nat → Nat) (k : Nat) : Nat := smN (fun q => smN (fun c => g (q * 12 + c)) 12) k
def clN (g : Nat → Nat) (k : Nat) : Nat := smN (fun q => smN (fun c => g (c * 12 + q)) 12) k
theorem rwN_s (g : Nat → Nat) (k : Nat) : rwN g (k + 1) = rwN g k + smN (fun c => g (k * 12 + c)) 12 := rfl
theorem clN_s (g : Nat → Nat) (k : Nat) : clN g (k + 1) = clN g k + smN (fun c => g (c * 12 + k)) 12 := rfl
theorem rwN_all (g : Nat → Nat) : rwN g 12 = smN g 144 := by
  rw [show (144 : Nat) = 12 * 12 from rfl, smN_rows]
  exact smN_eq (fun q _ => smN_eq (fun c _ => by rw [Nat.mul_comm]))
theorem clN_all (g : Nat → Nat) : clN g 12 = rwN g 12 := smN_swap (fun q c => g (c * 12 + q)) 12 12
theorem smN_mono {g : Nat → Nat} {n m : Nat} (h : n ≤ m) : smN g n ≤ smN g m := by
  induction m with
  | zero => rw [Nat.le_zero.mp h]; exact Nat.le_refl _
  | succ m ih =>
    by_cases hn : n = m + 1
    · rw [hn]; exact Nat.le_refl _
    · have := ih (by omega)
      simp only [smN]; omega
theorem rwN_le (g : Nat → Nat) {k : Nat} (hk : k ≤ 12) : rwN g k ≤ smN g 144 := by rw [← rwN_all]; exact smN_mono hk
theorem clN_le (g : Nat → Nat) {k : Nat} (hk : k ≤ 12) : clN g k ≤ smN g 144 := by rw [← rwN_all, ← clN_all]; exact smN_mono hk
theorem row_le (g : Nat → Nat) {k x : Nat} (hk : k < 12) (hx : x ≤ 12) : smN (fun c => g (k * 12 + c)) x ≤ smN g 144 := by
  have h1 := rwN_le g (k := k + 1) (by omega)
  rw [rwN_s] at h1
  have h2 := smN_mono (g := fun c => g (k * 12 + c)) hx
  omega
theorem mxN_le (g : Nat → Nat) {n : Nat} (hn : n ≤ 144) : mxN g n ≤ smN g 144 := by
  induction n with
  | zero => exact Nat.zero_le _
  | succ n ih =>
    have h1 := ih (by omega)
    have h2 := smN_ge (g := g) (k := n) (n := 144) (by omega)
    simp only [mxN]; omega
theorem mxN_s (g : Nat → Nat) (n : Nat) : mxN g (n + 1) = max (mxN g n) (g n) := rfl
/-! a stroke keeps the grains -/
theorem soF_keep (sw se : Nat → Int32) (tg g : Nat → Nat) (fl : Int32) (ht : ∀ p, p < 144 → tg p < 144) (n : Nat) (hn : n ≤ 144) : nI (smN (soF sw se tg g fl n).1 144 + smN (soF sw se tg g fl n).2.1 144) + (soF sw se tg g fl n).2.2 = nI (smN g 144) + fl := by
  induction n with
  | zero => show nI (smN g 144 + smN (fun _ => 0) 144) + fl = nI (smN g 144) + fl; rw [smN_0, Nat.add_zero]
  | succ n ih =>
    have ih := ih (by omega)
    rw [← ih]
    simp only [soF]
    split
    · rename_i hgo
      show nI (smN (upf _ n _) 144 + smN (shA _ _ _ _ _ n) 144) + (if flB sw se n = true then (soF sw se tg g fl n).2.2 + nI 1 else (soF sw se tg g fl n).2.2) = _
      have hpos : 0 < (soF sw se tg g fl n).1 n := by
        simp only [goB, Bool.and_eq_true, decide_eq_true_eq] at hgo; exact hgo.2
      generalize (soF sw se tg g fl n).1 = G at *
      generalize (soF sw se tg g fl n).2.1 = A at *
      generalize (soF sw se tg g fl n).2.2 = F at *
      have h1 := smN_upf (g := G) (k := n) (x := G n - (G n + 1) / 2) (n := 144) (by omega)
      simp only [shA]
      cases hf : flB sw se n with
      | true =>
        simp only [if_true]
        have h2 := smN_upf (g := A) (k := tg n) (x := A (tg n) + ((G n + 1) / 2 - 1)) (n := 144) (ht n (by omega))
        have e : smN G 144 + smN A 144 = (smN (upf G n (G n - (G n + 1) / 2)) 144 + smN (upf A (tg n) (A (tg n) + ((G n + 1) / 2 - 1))) 144) + 1 := by omega
        rw [e]
        generalize smN (upf G n (G n - (G n + 1) / 2)) 144 + smN (upf A (tg n) (A (tg n) + ((G n + 1) / 2 - 1))) 144 = x
        rw [← nI_add x 1, Int32.add_assoc, Int32.add_comm F]
      | false =>
        simp only [Bool.false_eq_true, if_false]
        have h2 := smN_upf (g := A) (k := tg n) (x := A (tg n) + ((G n + 1) / 2 - 0)) (n := 144) (ht n (by omega))
        rw [show smN G 144 + smN A 144 = smN (upf G n (G n - (G n + 1) / 2)) 144 + smN (upf A (tg n) (A (tg n) + ((G n + 1) / 2 - 0))) 144 by omega]
    · rfl
theorem onG_keep (sw se : Nat → Int32) (tg g : Nat → Nat) (fl : Int32) (ht : ∀ p, p < 144 → tg p < 144) : nI (smN (onG sw se tg g fl) 144) + onL sw se tg g fl = nI (smN g 144) + fl := by
  rw [← soF_keep sw se tg g fl ht 144 (Nat.le_refl _)]
  simp only [onG, onL]
  rw [smN_add 144 (Nat.le_refl _)]
theorem stI_keep (w : Nat) (se : Nat → Int32) (g : Nat → Nat) (fl : Int32) (n : Nat) : nI (smN (stI (SW w) se (tgW w) g fl n).1 144) + (stI (SW w) se (tgW w) g fl n).2 = nI (smN g 144) + fl := by
  induction n with
  | zero => rfl
  | succ n ih => rw [← ih]; exact onG_keep _ _ _ _ _ (fun p hp => tgW_lt hp)
theorem soF_st {sw se : Nat → Int32} {tg g : Nat → Nat} {fl : Int32} {p : Nat} (h : ¬ se 2 < sw p) (n : Nat) : (soF sw se tg g fl n).1 p = g p := by
  induction n with
  | zero => rfl
  | succ n ih =>
    simp only [soF]
    split
    · rename_i hgo
      show upf _ n _ p = g p
      have hne : p ≠ n := by
        intro e; subst e
        simp only [goB, Bool.and_eq_true, decide_eq_true_eq] at hgo
        exact h hgo.1
      rw [upf_n hne]; exact ih
    · exact ih
theorem stI_st {w : Nat} {se : Nat → Int32} {g : Nat → Nat} {fl : Int32} {p : Nat} (hp : p < 144) (h : ¬ se 2 < SW w p) (n : Nat) : g p ≤ (stI (SW w) se (tgW w) g fl n).1 p := by
  induction n with
  | zero => exact Nat.le_refl _
  | succ n ih =>
    show g p ≤ onG (SW w) se (tgW w) (stI (SW w) se (tgW w) g fl n).1 (stI (SW w) se (tgW w) g fl n).2 p
    simp only [onG]
    rw [adF_at _ _ _ p hp, soF_st h]
    omega
theorem gsN_mono {s t : SV} {w : Nat} (he : sv_se t = sv_se s) (hg : ∀ p, p < 144 → stB s w p = true → sv_g s p ≤ sv_g t p) : ∀ n, n ≤ 144 → gsN s w n ≤ gsN t w n := by
  intro n
  induction n with
  | zero => intro _; exact Nat.le_refl _
  | succ n ih =>
    intro hn
    have h1 := ih (by omega)
    have e : stB t w n = stB s w n := by simp only [stB]; rw [he]
    simp only [gsN]
    rw [e]
    split
    · rename_i hs
      have := hg n (by omega) hs
      omega
    · exact h1
theorem gsN_le (s : SV) (w n : Nat) : gsN s w n ≤ smN (sv_g s) n := by
  induction n with
  | zero => exact Nat.le_refl _
  | succ n ih => simp only [gsN, smN]; split <;> omega
theorem OKT_pl1 {s : SV} (h : OKT s) (i : Nat) : OKT (pl1 s i) := by
  cases hw : wyO s (bpN (sv_fs s i) (sv_fa s i)) with
  | none => rw [pl1_n hw]; exact OKT_g h ⟨rfl, rfl, rfl, rfl, rfl, rfl, rfl, rfl⟩
  | some w =>
    rw [pl1_s hw]
    exact ⟨h.1, h.2.1, i32_f (stI_keep w (sv_se s) (sv_g s) (sv_fl s) (sv_fk s i)) h.2.2⟩
theorem OKT_plS {s : SV} (h : OKT s) (i : Nat) : OKT (plS s i) := by
  induction i with
  | zero => exact h
  | succ i ih => exact OKT_pl1 ih i
/-! clamps -/
theorem cl_self {s : SV} (h : OKT s) {c : Nat} (hc : c < sv_nc s) : fdB (fun j => sv_cc s j == sv_cc s c && sv_cr s j == sv_cr s c) (sv_nc s) = some c := by
  refine fdB_some.mpr ⟨hc, by simp, fun j hj => ?_⟩
  cases he : (sv_cc s j == sv_cc s c && sv_cr s j == sv_cr s c)
  · rfl
  · simp only [Bool.and_eq_true, beq_iff_eq] at he
    exact absurd he (h.2.1 j c hj hc)
theorem laM_n {k : Nat} (h : k < 2147483648) : laM (orM (some k)) = nI k := by
  show laM (nI k) = nI k
  simp only [laM]; rw [if_neg (nI_pos h)]
theorem fdB_sn {p : Nat → Bool} {n : Nat} : (fdB p (n + 1)).isSome = ((fdB p n).isSome || p n) := by
  simp only [fdB]
  cases h : fdB p n with
  | some j => rfl
  | none => cases hp : p n <;> rfl
theorem fdB_up {p : Nat → Bool} {n m k : Nat} (h : fdB p n = some k) (hm : n ≤ m) : fdB p m = some k := by
  obtain ⟨h1, h2⟩ := fdB_some.mp h
  exact fdB_some.mpr ⟨by omega, h2⟩
theorem fdB_t {p : Nat → Bool} {n : Nat} (h : fdB p n = none) (hp : p n = true) : fdB p (n + 1) = some n := by simp only [fdB]; rw [h, hp]; rfl
theorem fdB_f {p : Nat → Bool} {n : Nat} (hp : p n = false) : fdB p (n + 1) = fdB p n := by
  simp only [fdB]; cases h : fdB p n with
  | some j => rfl
  | none => rw [hp]; rfl
def hdB (s : SV) (w c : Nat) : Bool := (fdB (fun c => !decide (SW w (12 * sv_cr s c + sv_cc s c) ≤ sv_se s 0)) c).isSome
theorem hdB_s (s : SV) (w c : Nat) : hdB s w (c + 1) = (hdB s w c || !decide (SW w (12 * sv_cr s c + sv_cc s c) ≤ sv_se s 0)) := fdB_sn
theorem hdB_cl (s : SV) (w : Nat) : hdB s w (sv_nc s) = !clB s w := by
  simp only [hdB, clB]
  cases fdB (fun c => !decide (SW w (12 * sv_cr s c + sv_cc s c) ≤ sv_se s 0)) (sv_nc s) <;> rfl
def okB (s : SV) (p w : Nat) : Bool := bwB s w p && clB s w
theorem wyO_e (s : SV) (p : Nat) : wyO s p = fdB (okB s p) 48 := rfl
theorem rs_held {s : SV} {w p : Nat} (h : clB s w = false) : rsN s w p = 1 := by simp only [rsN]; rw [h]; rfl
theorem rs_weak {s : SV} {w p : Nat} (h : clB s w = true) (h2 : bwB s w p = false) : rsN s w p = 2 := by simp only [rsN]; rw [h, h2]; rfl
theorem rs_first {s : SV} {w p : Nat} (hw : w < 48) (h : clB s w = true) (h2 : bwB s w p = true) (h3 : fdB (okB s p) w = none) : rsN s w p = 0 := by
  have h4 : wyO s p = some w := fdB_up (fdB_t h3 (by show (bwB s w p && clB s w) = true; rw [h, h2]; rfl)) (by omega)
  simp only [rsN]; rw [h, h2, h4]; simp
theorem rs_behind {s : SV} {w p k : Nat} (hw : w < 48) (h : clB s w = true) (h2 : bwB s w p = true) (h3 : fdB (okB s p) w = some k) : rsN s w p = 3 := by
  have h4 : wyO s p = some k := fdB_up h3 (by omega)
  have hk := (fdB_some.mp h3).1
  have h5 : ¬ (some k = some w) := fun e => by cases e; omega
  simp only [rsN]; rw [h, h2, h4]
  rw [if_pos rfl, if_pos rfl, if_neg h5]
/-! which ways are possible, one after another -/
theorem cntB_le2 {p : Nat → Bool} {n m : Nat} (h : n ≤ m) : cntB p n ≤ cntB p m := by
  have := cntB_mono (p := p) (n := n) (d := m - n)
  rwa [show n + (m - n) = m by omega] at this
theorem pos_t {s : SV} {f : Nat → Nat} {w : Nat} (hw : w < 48) (h : fpP s w = true) : cntB (fpP s) w < cntB (fpP s) 48 ∧ fpF s f 48 (cntB (fpP s) w) = w := by
  have h1 : cntB (fpP s) w < cntB (fpP s) 48 := by
    have h2 := cntB_le2 (p := fpP s) (n := w + 1) (m := 48) (by omega)
    rw [cntB_t h] at h2; omega
  refine ⟨h1, ?_⟩
  obtain ⟨a1, a2, a3⟩ := fpF_at s f 48 _ h1
  generalize fpF s f 48 (cntB (fpP s) w) = v at *
  by_cases hv : v < w
  · have h2 := cntB_le2 (p := fpP s) (n := v + 1) (m := w) (by omega)
    rw [cntB_t a2] at h2; omega
  · by_cases hv2 : w < v
    · have h2 := cntB_le2 (p := fpP s) (n := w + 1) (m := v) (by omega)
      rw [cntB_t h] at h2; omega
    · omega
theorem pos_f {s : SV} {f : Nat → Nat} {w k : Nat} (h : fpP s w = false) (hk : k < cntB (fpP s) 48) : fpF s f 48 k ≠ w := by
  intro e
  have h2 := (fpF_at s f 48 k hk).2.1
  rw [e, h] at h2; cases h2
theorem fpP_cl {s : SV} {w : Nat} (h : fpP s w = true) : clB s w = true := by
  simp only [fpP, Bool.and_eq_true] at h; exact h.1
/-! lines and still places -/
theorem visit_o {o : Option Nat} {t : VT} {p : Nat} (h : vO (visit o t) p = true) : vO t p = true := by
  cases o with
  | none => exact h
  | some q =>
    simp only [visit] at h
    split at h
    · rename_i hq
      have h : upf (vO t) q false p = true := h
      by_cases hpq : p = q
      · rw [hpq]; exact hq.1
      · rw [upf_n hpq] at h; exact h
    · exact h
theorem vis4_o {t : VT} {q p : Nat} (h : vO (vis4 t q) p = true) : vO t p = true := visit_o (visit_o (visit_o (visit_o h)))
theorem bfs_o {p : Nat} (f : Nat) : ∀ (t : VT) (k : Nat), vO (bfs f t k) p = true → vO t p = true := by
  induction f with
  | zero => intro t k h; exact h
  | succ f ih =>
    intro t k h
    simp only [bfs] at h
    split at h
    · exact vis4_o (ih _ _ h)
    · exact h
theorem clF_o {t : VT} {q p : Nat} (h : vO (clF t q) p = true) : vO t p = true := visit_o (t := mkV (vO t) (vR t) 0) (bfs_o _ _ _ h)
theorem lnF_o {s : SV} {w : Nat} {r : Nat → Nat} {c p : Nat} (n : Nat) (h : vO (lnF s w r c n).1 p = true) : stB s w p = true := by
  induction n with
  | zero => exact h
  | succ n ih =>
    simp only [lnF] at h
    split at h
    · exact ih (clF_o h)
    · exact ih h
theorem lnF_le (s : SV) (w : Nat) (r : Nat → Nat) (c n : Nat) : (lnF s w r c n).2 ≤ cntB (fun p => stB s w p) n := by
  induction n with
  | zero => exact Nat.le_refl _
  | succ n ih =>
    simp only [lnF]
    split
    · rename_i h
      rw [cntB_t (p := fun p => stB s w p) (lnF_o n h)]
      show (lnF s w r c n).2 + 1 ≤ _
      omega
    · exact Nat.le_trans ih (cntB_le2 (by omega))
theorem lnF_init {s : SV} {w : Nat} {r : Nat → Nat} {c : Nat} (n : Nat) (h : ∀ j, j < n → stB s w j = false) : lnF s w r c n = (mkV (fun p => stB s w p) r c, 0) := by
  induction n with
  | zero => rfl
  | succ n ih =>
    simp only [lnF]
    rw [ih (fun j hj => h j (by omega))]
    have h1 : ¬ (vO (mkV (fun p => stB s w p) r c) n = true) := by
      show ¬ (stB s w n = true)
      rw [h n (by omega)]; decide
    rw [if_neg h1]
theorem cntB_0 {p : Nat → Bool} {n : Nat} (h : cntB p n = 0) : ∀ j, j < n → p j = false := by
  induction n with
  | zero => intro j hj; omega
  | succ n ih =>
    intro j hj
    cases hp : p n
    · rw [cntB_f hp] at h
      by_cases hjn : j = n
      · rw [hjn]; exact hp
      · exact ih h j (by omega)
    · rw [cntB_t hp] at h; omega
theorem lnF_pos {s : SV} {w : Nat} {r : Nat → Nat} {c : Nat} (n : Nat) (h : 0 < cntB (fun p => stB s w p) n) : 0 < (lnF s w r c n).2 := by
  induction n with
  | zero => exact absurd h (Nat.lt_irrefl 0)
  | succ n ih =>
    by_cases h0 : cntB (fun p => stB s w p) n = 0
    · have h1 := cntB_0 h0
      have hs : stB s w n = true := by
        cases hs : stB s w n
        · rw [cntB_f (p := fun p => stB s w p) hs] at h; omega
        · rfl
      simp only [lnF]
      rw [lnF_init n h1]
      have h2 : vO (mkV (fun p => stB s w p) r c) n = true := hs
      rw [if_pos h2]
      exact Nat.zero_lt_succ _
    · have h1 := ih (Nat.pos_of_ne_zero h0)
      simp only [lnF]
      split
      · exact Nat.zero_lt_succ _
      · exact h1
/-! the ways' order -/
def ntN (w : Nat) : Nat := 10 * (10 * (tM w * tM w + tN w * tN w) + tS w) + tM w
def lsN : Nat → Nat
  | 0 => 0
  | w + 1 => ntN w
theorem way_tab : ∀ w, w < 48 → (tM w ≤ tN w ∧ (tM w < tN w ∨ tS w = 0)) ∧ lsN w < ntN w := by decide +kernel
theorem bpN_xy {sd al : Nat} (h : al < 12) : bpN sd al / 12 < 12 ∧ bpN sd al % 12 < 12 ∧ 12 * (bpN sd al / 12) + bpN sd al % 12 = bpN sd al := by
  have := bpN_lt (sd := sd) h
  omega
