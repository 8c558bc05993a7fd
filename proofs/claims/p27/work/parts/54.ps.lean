/-! the whole of a plate, of its twin, and what holds of both -/
abbrev PS : Type := SV × (Nat → SV) × Nat × Nat × SV × Bool × (Nat → Nat) × Nat × Nat × (Nat → Nat) × (Nat → Nat) × (Nat → Nat) × Nat
def mkP (s_ : SV) (sl_ : (Nat → SV)) (o_ : Nat) (hd_ : Nat) (sn_ : SV) (hs_ : Bool) (tx_ : (Nat → Nat)) (tl_ : Nat) (tc_ : Nat) (tf_ : (Nat → Nat)) (ta_ : (Nat → Nat)) (tk_ : (Nat → Nat)) (tn_ : Nat) : PS := (s_, sl_, o_, hd_, sn_, hs_, tx_, tl_, tc_, tf_, ta_, tk_, tn_)
def p_s (x : PS) : SV := x.1
def p_sl (x : PS) : (Nat → SV) := x.2.1
def p_o (x : PS) : Nat := x.2.2.1
def p_hd (x : PS) : Nat := x.2.2.2.1
def p_sn (x : PS) : SV := x.2.2.2.2.1
def p_hs (x : PS) : Bool := x.2.2.2.2.2.1
def p_tx (x : PS) : (Nat → Nat) := x.2.2.2.2.2.2.1
def p_tl (x : PS) : Nat := x.2.2.2.2.2.2.2.1
def p_tc (x : PS) : Nat := x.2.2.2.2.2.2.2.2.1
def p_tf (x : PS) : (Nat → Nat) := x.2.2.2.2.2.2.2.2.2.1
def p_ta (x : PS) : (Nat → Nat) := x.2.2.2.2.2.2.2.2.2.2.1
def p_tk (x : PS) : (Nat → Nat) := x.2.2.2.2.2.2.2.2.2.2.2.1
def p_tn (x : PS) : Nat := x.2.2.2.2.2.2.2.2.2.2.2.2
abbrev JS : Type := (Nat → Nat) × Nat × (Nat → Bool) × VT × (Nat → Int32) × (Nat → Nat) × (Nat → Nat)
def mkJ (pf_ : (Nat → Nat)) (pn_ : Nat) (tk_ : (Nat → Bool)) (vt_ : VT) (sw_ : (Nat → Int32)) (tg_ : (Nat → Nat)) (ar_ : (Nat → Nat)) : JS := (pf_, pn_, tk_, vt_, sw_, tg_, ar_)
def j_pf (x : JS) : (Nat → Nat) := x.1
def j_pn (x : JS) : Nat := x.2.1
def j_tk (x : JS) : (Nat → Bool) := x.2.2.1
def j_vt (x : JS) : VT := x.2.2.2.1
def j_sw (x : JS) : (Nat → Int32) := x.2.2.2.2.1
def j_tg (x : JS) : (Nat → Nat) := x.2.2.2.2.2.1
def j_ar (x : JS) : (Nat → Nat) := x.2.2.2.2.2.2
abbrev QS : Type := (Nat → Int32) × (Nat → Int32) × (Nat → Int32) × (Nat → Int32) × (Nat → Bool) × (Nat → Nat) × Nat × Bool
def mkQ (M_ : (Nat → Int32)) (B_ : (Nat → Int32)) (K_ : (Nat → Int32)) (Z_ : (Nat → Int32)) (me_ : (Nat → Bool)) (rw_ : (Nat → Nat)) (ta_ : Nat) (iw_ : Bool) : QS := (M_, B_, K_, Z_, me_, rw_, ta_, iw_)
def q_M (x : QS) : (Nat → Int32) := x.1
def q_B (x : QS) : (Nat → Int32) := x.2.1
def q_K (x : QS) : (Nat → Int32) := x.2.2.1
def q_Z (x : QS) : (Nat → Int32) := x.2.2.2.1
def q_me (x : QS) : (Nat → Bool) := x.2.2.2.2.1
def q_rw (x : QS) : (Nat → Nat) := x.2.2.2.2.2.1
def q_ta (x : QS) : Nat := x.2.2.2.2.2.2.1
def q_iw (x : QS) : Bool := x.2.2.2.2.2.2.2
def wX (D : va_G) (a : Nat → Nat) (P : PS) (J : JS) : va_W := (((a 0), .inr (8, [.ref (a 1), .ref (a 6), .ref (a 15), .ref (a 18), .ref (a 21), .ref (a 25), .ref (a 31), .ref (a 69), .int (bB (p_hs P))])) :: ((a 1), .inr (7, [.ref (a 2), .ref (a 3), .ref (a 4), .ref (a 5), .int (nI 48)])) :: ((a 2), .inl (tyI D, 48, .inl (nf tM))) :: ((a 3), .inl (tyI D, 48, .inl (nf tN))) :: ((a 4), .inl (tyI D, 48, .inl (nf tS))) :: ((a 5), .inl (tyI D, 84, .inl hT)) :: ((a 6), .inr (5, [.ref (a 7), .ref (a 8), .ref (a 9), .int (nI (sv_nc (p_s P))), .ref (a 10), .ref (a 11), .int (sv_la (p_s P)), .int (sv_st (p_s P)), .int (sv_sw (p_s P)), .int (sv_fl (p_s P)), .int (sv_sk (p_s P)), .int (sv_mu (p_s P))])) :: ((a 7), .inl (tyI D, 144, .inl (nf (sv_g (p_s P))))) :: ((a 8), .inl (tyI D, 4, .inl (nf (sv_cc (p_s P))))) :: ((a 9), .inl (tyI D, 4, .inl (nf (sv_cr (p_s P))))) :: ((a 10), .inl (tyI D, 4, .inl (sv_se (p_s P)))) :: ((a 11), .inr (4, [.int (nI 16), .ref (a 12), .ref (a 13), .ref (a 14), .int (nI (sv_ps (p_s P)))])) :: ((a 12), .inl (tyI D, 16, .inl (nf (sv_fs (p_s P))))) :: ((a 13), .inl (tyI D, 16, .inl (nf (sv_fa (p_s P))))) :: ((a 14), .inl (tyI D, 16, .inl (nf (sv_fk (p_s P))))) :: ((a 15), .inr (0, [.ref (a 1), .ref (a 6), .ref (a 16), .int (nI (j_pn J)), .ref (a 17)])) :: ((a 16), .inl (tyI D, 48, .inl (nf (j_pf J)))) :: ((a 17), .inl (tyZ D, 48, .inl (bf (j_tk J)))) :: ((a 18), .inr (1, [.ref (a 1), .ref (a 6), .ref (a 19), .ref (a 20), .int (nI (vC (j_vt J)))])) :: ((a 19), .inl (tyZ D, 144, .inl (bf (vO (j_vt J))))) :: ((a 20), .inl (tyI D, 144, .inl (nf (vR (j_vt J))))) :: ((a 21), .inr (3, [.ref (a 1), .ref (a 6), .ref (a 22), .ref (a 23), .ref (a 24)])) :: ((a 22), .inl (tyI D, 144, .inl (j_sw J))) :: ((a 23), .inl (tyI D, 144, .inl (nf (j_tg J)))) :: ((a 24), .inl (tyI D, 144, .inl (nf (j_ar J)))) :: ((a 25), .inr (6, [.ref (a 26), .int (nI (p_tl P)), .ref (a 27), .int (nI (p_tc P))])) :: ((a 26), .inl (tyC D, 60, .inl (nf (p_tx P)))) :: ((a 27), .inr (4, [.int (nI 60), .ref (a 28), .ref (a 29), .ref (a 30), .int (nI (p_tn P))])) :: ((a 28), .inl (tyI D, 60, .inl (nf (p_tf P)))) :: ((a 29), .inl (tyI D, 60, .inl (nf (p_ta P)))) :: ((a 30), .inl (tyI D, 60, .inl (nf (p_tk P)))) :: ((a 31), .inr (2, [.ref (a 32), .int (nI (p_o P)), .int (nI (p_hd P))])) :: ((a 32), .inl (tyO D, 4, .inr (.inr (.inr (.inr (rf5 (a 33) (a 42) (a 51) (a 60))))))) :: ((a 33), .inr (5, [.ref (a 34), .ref (a 35), .ref (a 36), .int (nI (sv_nc (p_sl P 0))), .ref (a 37), .ref (a 38), .int (sv_la (p_sl P 0)), .int (sv_st (p_sl P 0)), .int (sv_sw (p_sl P 0)), .int (sv_fl (p_sl P 0)), .int (sv_sk (p_sl P 0)), .int (sv_mu (p_sl P 0))])) :: ((a 34), .inl (tyI D, 144, .inl (nf (sv_g (p_sl P 0))))) :: ((a 35), .inl (tyI D, 4, .inl (nf (sv_cc (p_sl P 0))))) :: ((a 36), .inl (tyI D, 4, .inl (nf (sv_cr (p_sl P 0))))) :: ((a 37), .inl (tyI D, 4, .inl (sv_se (p_sl P 0)))) :: ((a 38), .inr (4, [.int (nI 16), .ref (a 39), .ref (a 40), .ref (a 41), .int (nI (sv_ps (p_sl P 0)))])) :: ((a 39), .inl (tyI D, 16, .inl (nf (sv_fs (p_sl P 0))))) :: ((a 40), .inl (tyI D, 16, .inl (nf (sv_fa (p_sl P 0))))) :: ((a 41), .inl (tyI D, 16, .inl (nf (sv_fk (p_sl P 0))))) :: ((a 42), .inr (5, [.ref (a 43), .ref (a 44), .ref (a 45), .int (nI (sv_nc (p_sl P 1))), .ref (a 46), .ref (a 47), .int (sv_la (p_sl P 1)), .int (sv_st (p_sl P 1)), .int (sv_sw (p_sl P 1)), .int (sv_fl (p_sl P 1)), .int (sv_sk (p_sl P 1)), .int (sv_mu (p_sl P 1))])) :: ((a 43), .inl (tyI D, 144, .inl (nf (sv_g (p_sl P 1))))) :: ((a 44), .inl (tyI D, 4, .inl (nf (sv_cc (p_sl P 1))))) :: ((a 45), .inl (tyI D, 4, .inl (nf (sv_cr (p_sl P 1))))) :: ((a 46), .inl (tyI D, 4, .inl (sv_se (p_sl P 1)))) :: ((a 47), .inr (4, [.int (nI 16), .ref (a 48), .ref (a 49), .ref (a 50), .int (nI (sv_ps (p_sl P 1)))])) :: ((a 48), .inl (tyI D, 16, .inl (nf (sv_fs (p_sl P 1))))) :: ((a 49), .inl (tyI D, 16, .inl (nf (sv_fa (p_sl P 1))))) :: ((a 50), .inl (tyI D, 16, .inl (nf (sv_fk (p_sl P 1))))) :: ((a 51), .inr (5, [.ref (a 52), .ref (a 53), .ref (a 54), .int (nI (sv_nc (p_sl P 2))), .ref (a 55), .ref (a 56), .int (sv_la (p_sl P 2)), .int (sv_st (p_sl P 2)), .int (sv_sw (p_sl P 2)), .int (sv_fl (p_sl P 2)), .int (sv_sk (p_sl P 2)), .int (sv_mu (p_sl P 2))])) :: ((a 52), .inl (tyI D, 144, .inl (nf (sv_g (p_sl P 2))))) :: ((a 53), .inl (tyI D, 4, .inl (nf (sv_cc (p_sl P 2))))) :: ((a 54), .inl (tyI D, 4, .inl (nf (sv_cr (p_sl P 2))))) :: ((a 55), .inl (tyI D, 4, .inl (sv_se (p_sl P 2)))) :: ((a 56), .inr (4, [.int (nI 16), .ref (a 57), .ref (a 58), .ref (a 59), .int (nI (sv_ps (p_sl P 2)))])) :: ((a 57), .inl (tyI D, 16, .inl (nf (sv_fs (p_sl P 2))))) :: ((a 58), .inl (tyI D, 16, .inl (nf (sv_fa (p_sl P 2))))) :: ((a 59), .inl (tyI D, 16, .inl (nf (sv_fk (p_sl P 2))))) :: ((a 60), .inr (5, [.ref (a 61), .ref (a 62), .ref (a 63), .int (nI (sv_nc (p_sl P 3))), .ref (a 64), .ref (a 65), .int (sv_la (p_sl P 3)), .int (sv_st (p_sl P 3)), .int (sv_sw (p_sl P 3)), .int (sv_fl (p_sl P 3)), .int (sv_sk (p_sl P 3)), .int (sv_mu (p_sl P 3))])) :: ((a 61), .inl (tyI D, 144, .inl (nf (sv_g (p_sl P 3))))) :: ((a 62), .inl (tyI D, 4, .inl (nf (sv_cc (p_sl P 3))))) :: ((a 63), .inl (tyI D, 4, .inl (nf (sv_cr (p_sl P 3))))) :: ((a 64), .inl (tyI D, 4, .inl (sv_se (p_sl P 3)))) :: ((a 65), .inr (4, [.int (nI 16), .ref (a 66), .ref (a 67), .ref (a 68), .int (nI (sv_ps (p_sl P 3)))])) :: ((a 66), .inl (tyI D, 16, .inl (nf (sv_fs (p_sl P 3))))) :: ((a 67), .inl (tyI D, 16, .inl (nf (sv_fa (p_sl P 3))))) :: ((a 68), .inl (tyI D, 16, .inl (nf (sv_fk (p_sl P 3))))) :: ((a 69), .inr (5, [.ref (a 70), .ref (a 71), .ref (a 72), .int (nI (sv_nc (p_sn P))), .ref (a 73), .ref (a 74), .int (sv_la (p_sn P)), .int (sv_st (p_sn P)), .int (sv_sw (p_sn P)), .int (sv_fl (p_sn P)), .int (sv_sk (p_sn P)), .int (sv_mu (p_sn P))])) :: ((a 70), .inl (tyI D, 144, .inl (nf (sv_g (p_sn P))))) :: ((a 71), .inl (tyI D, 4, .inl (nf (sv_cc (p_sn P))))) :: ((a 72), .inl (tyI D, 4, .inl (nf (sv_cr (p_sn P))))) :: ((a 73), .inl (tyI D, 4, .inl (sv_se (p_sn P)))) :: ((a 74), .inr (4, [.int (nI 16), .ref (a 75), .ref (a 76), .ref (a 77), .int (nI (sv_ps (p_sn P)))])) :: ((a 75), .inl (tyI D, 16, .inl (nf (sv_fs (p_sn P))))) :: ((a 76), .inl (tyI D, 16, .inl (nf (sv_fa (p_sn P))))) :: ((a 77), .inl (tyI D, 16, .inl (nf (sv_fk (p_sn P))))) :: [])
def recP (P : PS) (s : SV) : PS := mkP s (upf (p_sl P) (rkN (p_o P) (p_hd P)) (cpS (p_sl P (rkN (p_o P) (p_hd P))) (p_s P))) (roN (p_o P) (p_hd P)) (rhN (p_hd P)) (p_sn P) (p_hs P) (p_tx P) (p_tl P) (p_tc P) (p_tf P) (p_ta P) (p_tk P) (p_tn P)
def recK (P : PS) (s : SV) (k : Nat) : PS := mkP s (upf (p_sl P) k (cpS (p_sl P k) (p_s P))) (roN (p_o P) (p_hd P)) (rhN (p_hd P)) (p_sn P) (p_hs P) (p_tx P) (p_tl P) (p_tc P) (p_tf P) (p_ta P) (p_tk P) (p_tn P)
theorem recK_e {P : PS} {s : SV} {k : Nat} (h : rkN (p_o P) (p_hd P) = k) : recP P s = recK P s k := by subst h; rfl
def p_h (P : PS) (k : Nat) : SV := p_sl P ((p_o P + k) % 4)
def IV (Bd : Nat) (P : PS) : Prop := OKS Bd (p_s P) ∧ p_o P < 4 ∧ p_hd P ≤ 4 ∧ (∀ k, k < p_hd P → OKS Bd (p_h P k)) ∧ (p_hs P = true → OKS Bd (p_sn P)) ∧ p_tl P ≤ 60 ∧ ∀ j, j < p_tl P → p_tx P j < 65536
theorem rkN_lt {o hd : Nat} (ho : o < 4) (hh : hd ≤ 4) : rkN o hd < 4 := by simp only [rkN]; split <;> omega
theorem IV_up {B B' : Nat} {P : PS} (h : IV B P) (hb : B ≤ B') : IV B' P := ⟨OKS_up h.1 hb, h.2.1, h.2.2.1, fun k hk => OKS_up (h.2.2.2.1 k hk) hb, fun e => OKS_up (h.2.2.2.2.1 e) hb, h.2.2.2.2.2⟩
theorem rec_h {P : PS} {s : SV} (ho : p_o P < 4) (hh : p_hd P ≤ 4) {k : Nat} (hk : k < rhN (p_hd P)) : p_h (recP P s) k = if k + 1 = rhN (p_hd P) then cpS (p_sl P (rkN (p_o P) (p_hd P))) (p_s P) else if p_hd P = 4 then p_h P (k + 1) else p_h P k := by
  show upf (p_sl P) (rkN (p_o P) (p_hd P)) (cpS (p_sl P (rkN (p_o P) (p_hd P))) (p_s P)) ((roN (p_o P) (p_hd P) + k) % 4) = _
  simp only [p_h]
  generalize p_o P = o at *
  by_cases h4 : p_hd P = 4
  · rw [h4] at hk ⊢
    have e1 : rkN o 4 = o := rfl
    have e2 : rhN 4 = 4 := rfl
    have e3 : roN o 4 = (o + 1) % 4 := rfl
    rw [e1, e2, e3, if_pos rfl]
    rw [e2] at hk
    by_cases hk3 : k + 1 = 4
    · rw [if_pos hk3, show ((o + 1) % 4 + k) % 4 = o by omega, upf_s]
    · rw [if_neg hk3, upf_n (by omega), show ((o + 1) % 4 + k) % 4 = (o + (k + 1)) % 4 by omega]
  · have e1 : rkN o (p_hd P) = (o + p_hd P) % 4 := if_neg h4
    have e2 : rhN (p_hd P) = p_hd P + 1 := if_neg h4
    have e3 : roN o (p_hd P) = o := if_neg h4
    rw [e1, e2, e3, if_neg h4]
    rw [e2] at hk
    by_cases hkh : k + 1 = p_hd P + 1
    · rw [if_pos hkh, show k = p_hd P by omega, upf_s]
    · rw [if_neg hkh, upf_n (by omega)]
theorem IV_rec {B : Nat} {P : PS} {s : SV} (h : IV B P) (hs : OKS B s) : IV B (recP P s) := by
  obtain ⟨h1, h2, h3, h4, h5, h6, h7⟩ := h
  refine ⟨hs, ?_, ?_, fun k hk => ?_, h5, h6, h7⟩
  · show roN (p_o P) (p_hd P) < 4; simp only [roN]; split <;> omega
  · show rhN (p_hd P) ≤ 4; simp only [rhN]; split <;> omega
  · have hk : k < rhN (p_hd P) := hk
    rw [rec_h h2 h3 hk]
    split
    · exact OKS_SE h1 (cp_SE _ _ h1.1)
    · rename_i hne
      split
      · rename_i h44
        have e2 : rhN (p_hd P) = 4 := by rw [h44]; rfl
        exact h4 (k + 1) (by omega)
      · rename_i h44
        have e2 : rhN (p_hd P) = p_hd P + 1 := if_neg h44
        exact h4 k (by omega)
