theorem law_le {K i : Nat} (hk : K < 2147483648) (h : 4 * i + 4 ≤ K) : ¬ nI K - nI 4 < nI (4 * i) := by
  rw [pk_sub (by omega)]
  exact nI_nlt (by omega) (by omega)
theorem law_gt {K i : Nat} (hk : K < 2147483648) (h : ¬ 4 * i + 4 ≤ K) (hi : 4 * i < 2147483648 := by omega) : nI K - nI 4 < nI (4 * i) := by
  by_cases h4 : 4 ≤ K
  · rw [pk_sub h4]; exact nI_lt (by omega) (by omega)
  · exact Int32.lt_of_lt_of_le (pk_sneg (by decide) (by omega)) (by rw [← nI_0]; exact nI_le (Nat.zero_le _) (by omega))
set_option maxRecDepth 100000 in
set_option maxHeartbeats 4000000 in
/-- the law's loop -/
theorem law_loop {X : Fx} {l : Launch} {D : va_G} {z : Nat × Nat × Nat} (O : Ok X l D z cL_law RL wsL_law 4 room_1 false) {bb K : Nat} {xs : Nat → Int32} (S : SX X bb K xs) (hK : K ≤ 2048) {a b : Nat → Nat}
    (kend : ∀ (L : List (Nat × Value)) (ws : va_W), G X 90 11467 857 L [.int 1] ws) : ∀ (n i : Nat) (P : PS) (J : JS) (Q : QS), IV (720 + 14256 * i) P → RQ Q P → 4 * i ≤ K + 3 → K < 4 * (i + n) → G X 90 11467 18 [(0, .ref bb), (1, .ref (a 0)), (2, .ref (b 0)), (3, .int (nI (4 * i)))] [] (wX D a P J ++ wM D b P Q) := by
  have hk31 : K < 2147483648 := by omega
  intro n
  induction n with
  | zero =>
    intro i P J Q hI hq h1 h2
    have hend : ¬ (4 * i + 4 ≤ K) := by omega
    refine g_iload_n O dL_law_18 3 rfl rfl ?_
    refine g_aload_n O dL_law_19 0 rfl rfl ?_
    refine g_slen O S dL_law_20 ?_
    refine g_iconst (x := (nI 4)) O dL_law_21 (by decide +kernel) ?_
    refine g_isub O dL_law_22 ?_
    refine g_icmp_gt (tgt := 856) O dL_law_23 (by decide) (fun _ => ?_) (fun h => absurd (law_gt hk31 hend) h)
    refine g_iconst (x := 1) O dL_law_856 (by decide +kernel) ?_
    exact kend _ _
  | succ n ih =>
    intro i P J Q hI hq h1 h2
    have hB : 720 + 14256 * i < 1073741824 := by omega
    refine g_iload_n O dL_law_18 3 rfl rfl ?_
    refine g_aload_n O dL_law_19 0 rfl rfl ?_
    refine g_slen O S dL_law_20 ?_
    refine g_iconst (x := (nI 4)) O dL_law_21 (by decide +kernel) ?_
    refine g_isub O dL_law_22 ?_
    by_cases hi : 4 * i + 4 ≤ K
    · refine g_icmp_gt (tgt := 856) O dL_law_23 (by decide) (fun h => absurd h (law_le hk31 hi)) (fun _ => ?_)
      have kk : ∀ (P' : PS) (J' : JS) (Q' : QS), IV (720 + 14256 * i + 14256) P' → RQ Q' P' → G X 90 11467 850 [(0, .ref bb), (1, .ref (a 0)), (2, .ref (b 0)), (3, .int (nI (4 * i)))] [] (wX D a P' J' ++ wM D b P' Q') := by
        intro P' J' Q' hI' hq'
        refine g_iinc (L' := [(0, .ref bb), (1, .ref (a 0)), (2, .ref (b 0)), (3, .int (nI (4 * (i + 1))))]) (y := nI (4 * (i + 1))) O dL_law_850 3 rfl (by show nI (4 * i) + Int32.ofInt 4 = nI (4 * (i + 1)); rw [show Int32.ofInt 4 = nI 4 from by decide +kernel, nI_add]; rfl) (by decide) [1, 2, 3, 0] rfl ?_
        refine g_goto (tgt := 18) O dL_law_853 (by decide) ?_
        exact ih (i + 1) P' J' Q' (by rw [show 720 + 14256 * (i + 1) = 720 + 14256 * i + 14256 by omega]; exact hI') hq' (by omega) (by omega)
      refine g_aload_n O dL_law_26 0 rfl rfl ?_
      refine g_iload_n O dL_law_27 3 rfl rfl ?_
      refine g_sld O S (by omega) hk31 dL_law_28 ?_
      refine g_bipush (x := (nI 31)) O dL_law_29 (by decide +kernel) ?_
      refine g_iand O dL_law_31 ?_
      obtain ⟨q, hq32, hqe⟩ := pk_andE (xs (4 * i)) (m := nI 31) 5 (by decide +kernel)
      refine g_eq (st' := [.int (nI q)]) (by rw [hqe]) rfl rfl ?_
      by_cases h24 : q < 24
      · rcases (show q = 0 ∨ q = 1 ∨ q = 2 ∨ q = 3 ∨ q = 4 ∨ q = 5 ∨ q = 6 ∨ q = 7 ∨ q = 8 ∨ q = 9 ∨ q = 10 ∨ q = 11 ∨ q = 12 ∨ q = 13 ∨ q = 14 ∨ q = 15 ∨ q = 16 ∨ q = 17 ∨ q = 18 ∨ q = 19 ∨ q = 20 ∨ q = 21 ∨ q = 22 ∨ q = 23 by omega) with rfl | rfl | rfl | rfl | rfl | rfl | rfl | rfl | rfl | rfl | rfl | rfl | rfl | rfl | rfl | rfl | rfl | rfl | rfl | rfl | rfl | rfl | rfl | rfl
        · refine g_tableIn (off := 112) (tgt := 144) O dL_law_32 (by decide +kernel) (by decide +kernel) (by decide +kernel) (by decide) ?_
          exact law_strew O S hK hI hB hq hi kk
        · refine g_tableIn (off := 155) (tgt := 187) O dL_law_32 (by decide +kernel) (by decide +kernel) (by decide +kernel) (by decide) ?_
          exact law_sweep O S hK hI hB hq hi kk
        · refine g_tableIn (off := 178) (tgt := 210) O dL_law_32 (by decide +kernel) (by decide +kernel) (by decide +kernel) (by decide) ?_
          exact law_clamp O S hK hI hB hq hi kk
        · refine g_tableIn (off := 211) (tgt := 243) O dL_law_32 (by decide +kernel) (by decide +kernel) (by decide +kernel) (by decide) ?_
          exact law_unclamp O S hK hI hB hq hi kk
        · refine g_tableIn (off := 234) (tgt := 266) O dL_law_32 (by decide +kernel) (by decide +kernel) (by decide +kernel) (by decide) ?_
          exact law_set O S hK hI hB hq hi kk
        · refine g_tableIn (off := 267) (tgt := 299) O dL_law_32 (by decide +kernel) (by decide +kernel) (by decide +kernel) (by decide) ?_
          exact law_bow O S hK hI hB hq hi kk
        · refine g_tableIn (off := 310) (tgt := 342) O dL_law_32 (by decide +kernel) (by decide +kernel) (by decide +kernel) (by decide) ?_
          exact law_bowAll O S hK hI hB hq hi kk
        · refine g_tableIn (off := 323) (tgt := 355) O dL_law_32 (by decide +kernel) (by decide +kernel) (by decide +kernel) (by decide) ?_
          exact law_strike O S hK hI hB hq hi kk
        · refine g_tableIn (off := 346) (tgt := 378) O dL_law_32 (by decide +kernel) (by decide +kernel) (by decide +kernel) (by decide) ?_
          exact law_play O S hK hI hB hq hi kk
        · refine g_tableIn (off := 369) (tgt := 401) O dL_law_32 (by decide +kernel) (by decide +kernel) (by decide +kernel) (by decide) ?_
          exact law_type O S hK hI hB hq hi kk
        · refine g_tableIn (off := 394) (tgt := 426) O dL_law_32 (by decide +kernel) (by decide +kernel) (by decide +kernel) (by decide) ?_
          exact law_clearText O S hK hI hB hq hi kk
        · refine g_tableIn (off := 407) (tgt := 439) O dL_law_32 (by decide +kernel) (by decide +kernel) (by decide +kernel) (by decide) ?_
          exact law_undo O S hK hI hB hq hi kk
        · refine g_tableIn (off := 420) (tgt := 452) O dL_law_32 (by decide +kernel) (by decide +kernel) (by decide +kernel) (by decide) ?_
          exact law_keep O S hK hI hB hq hi kk
        · refine g_tableIn (off := 433) (tgt := 465) O dL_law_32 (by decide +kernel) (by decide +kernel) (by decide +kernel) (by decide) ?_
          exact law_restore O S hK hI hB hq hi kk
        · refine g_tableIn (off := 446) (tgt := 478) O dL_law_32 (by decide +kernel) (by decide +kernel) (by decide +kernel) (by decide) ?_
          exact law_place O S hK hI hB hq hi kk
        · refine g_tableIn (off := 489) (tgt := 521) O dL_law_32 (by decide +kernel) (by decide +kernel) (by decide +kernel) (by decide) ?_
          exact law_way O S hK hI hB hq hi kk
        · refine g_tableIn (off := 522) (tgt := 554) O dL_law_32 (by decide +kernel) (by decide +kernel) (by decide +kernel) (by decide) ?_
          exact law_swing O S hK hI hB hq hi kk
        · refine g_tableIn (off := 565) (tgt := 597) O dL_law_32 (by decide +kernel) (by decide +kernel) (by decide +kernel) (by decide) ?_
          exact law_sounds O S hK hI hB hq hi kk
        · refine g_tableIn (off := 598) (tgt := 630) O dL_law_32 (by decide +kernel) (by decide +kernel) (by decide +kernel) (by decide) ?_
          exact law_why O S hK hI hB hq hi kk
        · refine g_tableIn (off := 641) (tgt := 673) O dL_law_32 (by decide +kernel) (by decide +kernel) (by decide +kernel) (by decide) ?_
          exact law_possible O S hK hI hB hq hi kk
        · refine g_tableIn (off := 664) (tgt := 696) O dL_law_32 (by decide +kernel) (by decide +kernel) (by decide +kernel) (by decide) ?_
          exact law_waiting O S hK hI hB hq hi kk
        · refine g_tableIn (off := 697) (tgt := 729) O dL_law_32 (by decide +kernel) (by decide +kernel) (by decide +kernel) (by decide) ?_
          exact law_sand O S hK hI hB hq hi kk
        · refine g_tableIn (off := 746) (tgt := 778) O dL_law_32 (by decide +kernel) (by decide +kernel) (by decide +kernel) (by decide) ?_
          exact law_count O S hK hI hB hq hi kk
        · refine g_tableIn (off := 769) (tgt := 801) O dL_law_32 (by decide +kernel) (by decide +kernel) (by decide +kernel) (by decide) ?_
          exact law_clampAt O S hK hI hB hq hi kk
      · refine g_tableO (tgt := 850) (N := 24) O dL_law_32 (Or.inr (nI_le (by omega) (by omega))) (by decide) (by decide) (by decide) ?_
        exact kk P J Q (IV_up hI (Nat.le_add_right _ _)) hq
    · refine g_icmp_gt (tgt := 856) O dL_law_23 (by decide) (fun _ => ?_) (fun h => absurd (law_gt hk31 hi) h)
      refine g_iconst (x := 1) O dL_law_856 (by decide +kernel) ?_
      exact kend _ _
