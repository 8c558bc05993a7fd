section
-- ===== PART A: goes FIRST, ahead of the names: the tables' words, and 'selects' of the private methods out of them =====
/-- a private method of a class that the tables say can be made, by its rows of tables_1 -/
def lw_okq (q : MethodName × Nat) : Prop := (q.1.cls ≠ "java/lang/invoke/MethodHandle" ∧ q.1.cls ≠ "java/lang/invoke/VarHandle") ∧ Cond.instantiable q.1.cls q.2 ∈ tables_1 ∧ Cond.privateMethod q.1 ∈ tables_1 ∧ Cond.instanceMethod q.1 ∈ tables_1
theorem lw_p0 : lw_okq (⟨"BowedPlate$Ways", "listWaysOf", "(II)V"⟩, 5) := ⟨⟨by decide +kernel, by decide +kernel⟩, List.mem_of_getElem? (i := 22) (by decide +kernel), List.mem_of_getElem? (i := 31) (by decide +kernel), List.mem_of_getElem? (i := 32) (by decide +kernel)⟩
theorem lw_p1 : lw_okq (⟨"BowedPlate", "isClamp", "(I)Z"⟩, 9) := ⟨⟨by decide +kernel, by decide +kernel⟩, List.mem_of_getElem? (i := 14) (by decide +kernel), List.mem_of_getElem? (i := 350) (by decide +kernel), List.mem_of_getElem? (i := 351) (by decide +kernel)⟩
theorem lw_p2 : lw_okq (⟨"BowedPlate$Text", "readBowing", "()Z"⟩, 4) := ⟨⟨by decide +kernel, by decide +kernel⟩, List.mem_of_getElem? (i := 227) (by decide +kernel), List.mem_of_getElem? (i := 385) (by decide +kernel), List.mem_of_getElem? (i := 386) (by decide +kernel)⟩
theorem lw_p3 : lw_okq (⟨"BowedPlate$Text", "next", "()I"⟩, 4) := ⟨⟨by decide +kernel, by decide +kernel⟩, List.mem_of_getElem? (i := 227) (by decide +kernel), List.mem_of_getElem? (i := 389) (by decide +kernel), List.mem_of_getElem? (i := 390) (by decide +kernel)⟩
theorem lw_p4 : lw_okq (⟨"BowedPlate$Text", "readNumber", "(II)I"⟩, 4) := ⟨⟨by decide +kernel, by decide +kernel⟩, List.mem_of_getElem? (i := 227) (by decide +kernel), List.mem_of_getElem? (i := 396) (by decide +kernel), List.mem_of_getElem? (i := 397) (by decide +kernel)⟩
theorem lw_p5 : lw_okq (⟨"BowedPlate", "playBowing", "(I)Z"⟩, 9) := ⟨⟨by decide +kernel, by decide +kernel⟩, List.mem_of_getElem? (i := 14) (by decide +kernel), List.mem_of_getElem? (i := 428) (by decide +kernel), List.mem_of_getElem? (i := 429) (by decide +kernel)⟩
theorem lw_p6 : lw_okq (⟨"BowedPlate$Choice", "swingAtBow", "(III)I"⟩, 5) := ⟨⟨by decide +kernel, by decide +kernel⟩, List.mem_of_getElem? (i := 158) (by decide +kernel), List.mem_of_getElem? (i := 440) (by decide +kernel), List.mem_of_getElem? (i := 441) (by decide +kernel)⟩
theorem lw_p7 : lw_okq (⟨"BowedPlate$Mover", "targetOf", "(II)I"⟩, 5) := ⟨⟨by decide +kernel, by decide +kernel⟩, List.mem_of_getElem? (i := 205) (by decide +kernel), List.mem_of_getElem? (i := 471) (by decide +kernel), List.mem_of_getElem? (i := 472) (by decide +kernel)⟩
theorem lw_p8 : lw_okq (⟨"BowedPlate$Mover", "calmerOf", "(III)I"⟩, 5) := ⟨⟨by decide +kernel, by decide +kernel⟩, List.mem_of_getElem? (i := 205) (by decide +kernel), List.mem_of_getElem? (i := 476) (by decide +kernel), List.mem_of_getElem? (i := 477) (by decide +kernel)⟩
theorem lw_p9 : lw_okq (⟨"BowedPlate$Mover", "strokeOnce", "()V"⟩, 5) := ⟨⟨by decide +kernel, by decide +kernel⟩, List.mem_of_getElem? (i := 205) (by decide +kernel), List.mem_of_getElem? (i := 481) (by decide +kernel), List.mem_of_getElem? (i := 482) (by decide +kernel)⟩
theorem lw_p10 : lw_okq (⟨"BowedPlate$Mover", "shake", "(I)V"⟩, 5) := ⟨⟨by decide +kernel, by decide +kernel⟩, List.mem_of_getElem? (i := 205) (by decide +kernel), List.mem_of_getElem? (i := 485) (by decide +kernel), List.mem_of_getElem? (i := 486) (by decide +kernel)⟩
theorem lw_p11 : lw_okq (⟨"BowedPlate$Figure", "closeLine", "(I)V"⟩, 5) := ⟨⟨by decide +kernel, by decide +kernel⟩, List.mem_of_getElem? (i := 183) (by decide +kernel), List.mem_of_getElem? (i := 560) (by decide +kernel), List.mem_of_getElem? (i := 561) (by decide +kernel)⟩
theorem lw_p12 : lw_okq (⟨"BowedPlate$Figure", "reach", "(II)V"⟩, 5) := ⟨⟨by decide +kernel, by decide +kernel⟩, List.mem_of_getElem? (i := 183) (by decide +kernel), List.mem_of_getElem? (i := 564) (by decide +kernel), List.mem_of_getElem? (i := 565) (by decide +kernel)⟩
theorem lw_p13 : lw_okq (⟨"BowedPlate$Choice", "takesBow", "(I)Z"⟩, 5) := ⟨⟨by decide +kernel, by decide +kernel⟩, List.mem_of_getElem? (i := 158) (by decide +kernel), List.mem_of_getElem? (i := 600) (by decide +kernel), List.mem_of_getElem? (i := 601) (by decide +kernel)⟩
theorem lw_p14 : lw_okq (⟨"BowedPlateModel", "findWays", "()V"⟩, 16) := ⟨⟨by decide +kernel, by decide +kernel⟩, List.mem_of_getElem? (i := 625) (by decide +kernel), List.mem_of_getElem? (i := 631) (by decide +kernel), List.mem_of_getElem? (i := 632) (by decide +kernel)⟩
theorem lw_p15 : lw_okq (⟨"BowedPlateModel", "know", "()V"⟩, 16) := ⟨⟨by decide +kernel, by decide +kernel⟩, List.mem_of_getElem? (i := 625) (by decide +kernel), List.mem_of_getElem? (i := 700) (by decide +kernel), List.mem_of_getElem? (i := 701) (by decide +kernel)⟩
def lw_privs_1 : List (MethodName × Nat) := [(⟨"BowedPlate$Ways", "listWaysOf", "(II)V"⟩, 5), (⟨"BowedPlate", "isClamp", "(I)Z"⟩, 9), (⟨"BowedPlate$Text", "readBowing", "()Z"⟩, 4), (⟨"BowedPlate$Text", "next", "()I"⟩, 4), (⟨"BowedPlate$Text", "readNumber", "(II)I"⟩, 4), (⟨"BowedPlate", "playBowing", "(I)Z"⟩, 9), (⟨"BowedPlate$Choice", "swingAtBow", "(III)I"⟩, 5), (⟨"BowedPlate$Mover", "targetOf", "(II)I"⟩, 5), (⟨"BowedPlate$Mover", "calmerOf", "(III)I"⟩, 5), (⟨"BowedPlate$Mover", "strokeOnce", "()V"⟩, 5), (⟨"BowedPlate$Mover", "shake", "(I)V"⟩, 5), (⟨"BowedPlate$Figure", "closeLine", "(I)V"⟩, 5), (⟨"BowedPlate$Figure", "reach", "(II)V"⟩, 5), (⟨"BowedPlate$Choice", "takesBow", "(I)Z"⟩, 5), (⟨"BowedPlateModel", "findWays", "()V"⟩, 16), (⟨"BowedPlateModel", "know", "()V"⟩, 16)]
theorem lw_r1 : ∀ q ∈ lw_privs_1, lw_okq q := List.forall_mem_cons.mpr ⟨lw_p0, List.forall_mem_cons.mpr ⟨lw_p1, List.forall_mem_cons.mpr ⟨lw_p2, List.forall_mem_cons.mpr ⟨lw_p3, List.forall_mem_cons.mpr ⟨lw_p4, List.forall_mem_cons.mpr ⟨lw_p5, List.forall_mem_cons.mpr ⟨lw_p6, List.forall_mem_cons.mpr ⟨lw_p7, List.forall_mem_cons.mpr ⟨lw_p8, List.forall_mem_cons.mpr ⟨lw_p9, List.forall_mem_cons.mpr ⟨lw_p10, List.forall_mem_cons.mpr ⟨lw_p11, List.forall_mem_cons.mpr ⟨lw_p12, List.forall_mem_cons.mpr ⟨lw_p13, List.forall_mem_cons.mpr ⟨lw_p14, List.forall_mem_cons.mpr ⟨lw_p15, fun _ h => absurd h List.not_mem_nil⟩⟩⟩⟩⟩⟩⟩⟩⟩⟩⟩⟩⟩⟩⟩⟩
theorem lw_p16 : lw_okq (⟨"BowedPlateModel", "allGrains", "()I"⟩, 16) := ⟨⟨by decide +kernel, by decide +kernel⟩, List.mem_of_getElem? (i := 625) (by decide +kernel), List.mem_of_getElem? (i := 708) (by decide +kernel), List.mem_of_getElem? (i := 709) (by decide +kernel)⟩
theorem lw_p17 : lw_okq (⟨"BowedPlateModel", "clampOn", "(I)I"⟩, 16) := ⟨⟨by decide +kernel, by decide +kernel⟩, List.mem_of_getElem? (i := 625) (by decide +kernel), List.mem_of_getElem? (i := 716) (by decide +kernel), List.mem_of_getElem? (i := 717) (by decide +kernel)⟩
theorem lw_p18 : lw_okq (⟨"BowedPlateModel", "waits", "(III)I"⟩, 16) := ⟨⟨by decide +kernel, by decide +kernel⟩, List.mem_of_getElem? (i := 625) (by decide +kernel), List.mem_of_getElem? (i := 735) (by decide +kernel), List.mem_of_getElem? (i := 736) (by decide +kernel)⟩
theorem lw_p19 : lw_okq (⟨"BowedPlateModel", "strikeAt", "(I)V"⟩, 16) := ⟨⟨by decide +kernel, by decide +kernel⟩, List.mem_of_getElem? (i := 625) (by decide +kernel), List.mem_of_getElem? (i := 743) (by decide +kernel), List.mem_of_getElem? (i := 744) (by decide +kernel)⟩
theorem lw_p20 : lw_okq (⟨"BowedPlateModel", "soundsAt", "(I)I"⟩, 16) := ⟨⟨by decide +kernel, by decide +kernel⟩, List.mem_of_getElem? (i := 625) (by decide +kernel), List.mem_of_getElem? (i := 754) (by decide +kernel), List.mem_of_getElem? (i := 755) (by decide +kernel)⟩
theorem lw_p21 : lw_okq (⟨"BowedPlateModel", "canSound", "(II)Z"⟩, 16) := ⟨⟨by decide +kernel, by decide +kernel⟩, List.mem_of_getElem? (i := 625) (by decide +kernel), List.mem_of_getElem? (i := 758) (by decide +kernel), List.mem_of_getElem? (i := 759) (by decide +kernel)⟩
theorem lw_p22 : lw_okq (⟨"BowedPlateModel", "isHeld", "(I)Z"⟩, 16) := ⟨⟨by decide +kernel, by decide +kernel⟩, List.mem_of_getElem? (i := 625) (by decide +kernel), List.mem_of_getElem? (i := 762) (by decide +kernel), List.mem_of_getElem? (i := 763) (by decide +kernel)⟩
theorem lw_p23 : lw_okq (⟨"BowedPlateModel", "swingAt", "(II)I"⟩, 16) := ⟨⟨by decide +kernel, by decide +kernel⟩, List.mem_of_getElem? (i := 625) (by decide +kernel), List.mem_of_getElem? (i := 766) (by decide +kernel), List.mem_of_getElem? (i := 767) (by decide +kernel)⟩
theorem lw_p24 : lw_okq (⟨"BowedPlateModel", "stroke", "(I)V"⟩, 16) := ⟨⟨by decide +kernel, by decide +kernel⟩, List.mem_of_getElem? (i := 625) (by decide +kernel), List.mem_of_getElem? (i := 770) (by decide +kernel), List.mem_of_getElem? (i := 771) (by decide +kernel)⟩
theorem lw_p25 : lw_okq (⟨"BowedPlateModel", "calmest", "(II)I"⟩, 16) := ⟨⟨by decide +kernel, by decide +kernel⟩, List.mem_of_getElem? (i := 625) (by decide +kernel), List.mem_of_getElem? (i := 777) (by decide +kernel), List.mem_of_getElem? (i := 778) (by decide +kernel)⟩
theorem lw_p26 : lw_okq (⟨"BowedPlateModel", "go", "(Z)I"⟩, 16) := ⟨⟨by decide +kernel, by decide +kernel⟩, List.mem_of_getElem? (i := 625) (by decide +kernel), List.mem_of_getElem? (i := 793) (by decide +kernel), List.mem_of_getElem? (i := 794) (by decide +kernel)⟩
theorem lw_p27 : lw_okq (⟨"BowedPlateModel", "number", "(II)I"⟩, 16) := ⟨⟨by decide +kernel, by decide +kernel⟩, List.mem_of_getElem? (i := 625) (by decide +kernel), List.mem_of_getElem? (i := 797) (by decide +kernel), List.mem_of_getElem? (i := 798) (by decide +kernel)⟩
theorem lw_p28 : lw_okq (⟨"BowedPlateModel", "sign", "(II)I"⟩, 16) := ⟨⟨by decide +kernel, by decide +kernel⟩, List.mem_of_getElem? (i := 625) (by decide +kernel), List.mem_of_getElem? (i := 801) (by decide +kernel), List.mem_of_getElem? (i := 802) (by decide +kernel)⟩
theorem lw_p29 : lw_okq (⟨"BowedPlateModel", "isStill", "(II)Z"⟩, 16) := ⟨⟨by decide +kernel, by decide +kernel⟩, List.mem_of_getElem? (i := 625) (by decide +kernel), List.mem_of_getElem? (i := 821) (by decide +kernel), List.mem_of_getElem? (i := 822) (by decide +kernel)⟩
theorem lw_p30 : lw_okq (⟨"BowedPlateModel", "noteOf", "(I)I"⟩, 16) := ⟨⟨by decide +kernel, by decide +kernel⟩, List.mem_of_getElem? (i := 625) (by decide +kernel), List.mem_of_getElem? (i := 832) (by decide +kernel), List.mem_of_getElem? (i := 833) (by decide +kernel)⟩
theorem lw_p31 : lw_okq (⟨"BowedPlateModel", "still", "(II)I"⟩, 16) := ⟨⟨by decide +kernel, by decide +kernel⟩, List.mem_of_getElem? (i := 625) (by decide +kernel), List.mem_of_getElem? (i := 836) (by decide +kernel), List.mem_of_getElem? (i := 837) (by decide +kernel)⟩
def lw_privs_2 : List (MethodName × Nat) := [(⟨"BowedPlateModel", "allGrains", "()I"⟩, 16), (⟨"BowedPlateModel", "clampOn", "(I)I"⟩, 16), (⟨"BowedPlateModel", "waits", "(III)I"⟩, 16), (⟨"BowedPlateModel", "strikeAt", "(I)V"⟩, 16), (⟨"BowedPlateModel", "soundsAt", "(I)I"⟩, 16), (⟨"BowedPlateModel", "canSound", "(II)Z"⟩, 16), (⟨"BowedPlateModel", "isHeld", "(I)Z"⟩, 16), (⟨"BowedPlateModel", "swingAt", "(II)I"⟩, 16), (⟨"BowedPlateModel", "stroke", "(I)V"⟩, 16), (⟨"BowedPlateModel", "calmest", "(II)I"⟩, 16), (⟨"BowedPlateModel", "go", "(Z)I"⟩, 16), (⟨"BowedPlateModel", "number", "(II)I"⟩, 16), (⟨"BowedPlateModel", "sign", "(II)I"⟩, 16), (⟨"BowedPlateModel", "isStill", "(II)Z"⟩, 16), (⟨"BowedPlateModel", "noteOf", "(I)I"⟩, 16), (⟨"BowedPlateModel", "still", "(II)I"⟩, 16)]
theorem lw_r2 : ∀ q ∈ lw_privs_2, lw_okq q := List.forall_mem_cons.mpr ⟨lw_p16, List.forall_mem_cons.mpr ⟨lw_p17, List.forall_mem_cons.mpr ⟨lw_p18, List.forall_mem_cons.mpr ⟨lw_p19, List.forall_mem_cons.mpr ⟨lw_p20, List.forall_mem_cons.mpr ⟨lw_p21, List.forall_mem_cons.mpr ⟨lw_p22, List.forall_mem_cons.mpr ⟨lw_p23, List.forall_mem_cons.mpr ⟨lw_p24, List.forall_mem_cons.mpr ⟨lw_p25, List.forall_mem_cons.mpr ⟨lw_p26, List.forall_mem_cons.mpr ⟨lw_p27, List.forall_mem_cons.mpr ⟨lw_p28, List.forall_mem_cons.mpr ⟨lw_p29, List.forall_mem_cons.mpr ⟨lw_p30, List.forall_mem_cons.mpr ⟨lw_p31, fun _ h => absurd h List.not_mem_nil⟩⟩⟩⟩⟩⟩⟩⟩⟩⟩⟩⟩⟩⟩⟩⟩
theorem lw_p32 : lw_okq (⟨"BowedPlateModel", "lines", "(I)I"⟩, 16) := ⟨⟨by decide +kernel, by decide +kernel⟩, List.mem_of_getElem? (i := 625) (by decide +kernel), List.mem_of_getElem? (i := 840) (by decide +kernel), List.mem_of_getElem? (i := 841) (by decide +kernel)⟩
theorem lw_p33 : lw_okq (⟨"BowedPlateModel", "meet", "(I)V"⟩, 16) := ⟨⟨by decide +kernel, by decide +kernel⟩, List.mem_of_getElem? (i := 625) (by decide +kernel), List.mem_of_getElem? (i := 844) (by decide +kernel), List.mem_of_getElem? (i := 845) (by decide +kernel)⟩
theorem lw_p34 : lw_okq (⟨"BowedPlateModel", "isPossible", "(I)Z"⟩, 16) := ⟨⟨by decide +kernel, by decide +kernel⟩, List.mem_of_getElem? (i := 625) (by decide +kernel), List.mem_of_getElem? (i := 864) (by decide +kernel), List.mem_of_getElem? (i := 865) (by decide +kernel)⟩
theorem lw_p35 : lw_okq (⟨"BowedPlateModel", "possibles", "()I"⟩, 16) := ⟨⟨by decide +kernel, by decide +kernel⟩, List.mem_of_getElem? (i := 625) (by decide +kernel), List.mem_of_getElem? (i := 880) (by decide +kernel), List.mem_of_getElem? (i := 881) (by decide +kernel)⟩
theorem lw_p36 : lw_okq (⟨"BowedPlateModel", "mostGrains", "()I"⟩, 16) := ⟨⟨by decide +kernel, by decide +kernel⟩, List.mem_of_getElem? (i := 625) (by decide +kernel), List.mem_of_getElem? (i := 884) (by decide +kernel), List.mem_of_getElem? (i := 885) (by decide +kernel)⟩
def lw_privs_3 : List (MethodName × Nat) := [(⟨"BowedPlateModel", "lines", "(I)I"⟩, 16), (⟨"BowedPlateModel", "meet", "(I)V"⟩, 16), (⟨"BowedPlateModel", "isPossible", "(I)Z"⟩, 16), (⟨"BowedPlateModel", "possibles", "()I"⟩, 16), (⟨"BowedPlateModel", "mostGrains", "()I"⟩, 16)]
theorem lw_r3 : ∀ q ∈ lw_privs_3, lw_okq q := List.forall_mem_cons.mpr ⟨lw_p32, List.forall_mem_cons.mpr ⟨lw_p33, List.forall_mem_cons.mpr ⟨lw_p34, List.forall_mem_cons.mpr ⟨lw_p35, List.forall_mem_cons.mpr ⟨lw_p36, fun _ h => absurd h List.not_mem_nil⟩⟩⟩⟩⟩
def lw_privs : List (MethodName × Nat) := lw_privs_1 ++ (lw_privs_2 ++ (lw_privs_3))
def lw_tbl : List Cond := k2_sels lw_privs ++ tables_1
theorem lw_privs_ok : ∀ q ∈ lw_privs, lw_okq q := by
  show ∀ q ∈ lw_privs_1 ++ (lw_privs_2 ++ (lw_privs_3)), lw_okq q
  exact List.forall_mem_append.mpr ⟨lw_r1, List.forall_mem_append.mpr ⟨lw_r2, lw_r3⟩⟩
-- ===== end of PART A; then your names; then what follows =====
end
section
/-! ===== BEGIN words of one list among another's, by their places ===== -/
theorem goodIn_r {big : List Cond} (ws : List Cond) (ps : List Nat) (hp : ws = ps.filterMap (fun i => big[i]?)) (h : ws.all goodWord = true) : GoodIn big ws := by
  intro w hw
  have h1 := List.all_eq_true.mp h w hw
  rw [hp] at hw
  obtain ⟨i, -, hi⟩ := List.mem_filterMap.mp hw
  have hm : w ∈ big := by first | exact List.mem_of_getElem? hi | exact List.getElem?_mem hi
  exact ⟨hm, good_of_word h1⟩
theorem goodIn_app {big a b : List Cond} (ha : GoodIn big a) (hb : GoodIn big b) : GoodIn big (a ++ b) := fun w h => (List.mem_append.mp h).elim (ha w) (hb w)
theorem goodIn_ca {big a b : List Cond} {c : Cond} (ha : GoodIn big (c :: a)) (hb : GoodIn big b) : GoodIn big (c :: (a ++ b)) := fun w h => (List.mem_cons.mp h).elim (fun e => ha w (List.mem_cons.mpr (Or.inl e))) (fun h => (List.mem_append.mp h).elim (fun h => ha w (List.mem_cons.mpr (Or.inr h))) (hb w))
theorem goodIn_sub {big ws : List Cond} (hm : ∀ w ∈ ws, w ∈ big) (h : ws.all goodWord = true) : GoodIn big ws := fun w hw => ⟨hm w hw, good_of_word (List.all_eq_true.mp h w hw)⟩
/-! ===== END ===== -/

/-! ===== BEGIN printed: names, fields, word lists, decode rows ===== -/
def RX0 : String := "BowedPlate$Choice"
def TX0 : u_T := fun k => match k with
  | 0 => ("BowedPlate$Choice", "ways", "LBowedPlate$Ways;", true)
  | 1 => ("BowedPlate$Choice", "now", "LBowedPlate$State;", true)
  | 2 => ("BowedPlate$Choice", "possibleWay", "[I", true)
  | 3 => ("BowedPlate$Choice", "possibleWays", "I", false)
  | _ => ("BowedPlate$Choice", "isTaken", "[Z", true)
def tyX0 : Nat → FieldType := fun k => match k with
  | 0 => .object "BowedPlate$Ways"
  | 1 => .object "BowedPlate$State"
  | 2 => .array .int
  | 3 => .int
  | _ => .array .boolean
abbrev wsX00 : List Cond := u_ws RX0 TX0 5
theorem nmX0 : ∀ a, a < 5 → ∀ b, b < 5 → a ≠ b → (TX0 a).2.1 ≠ (TX0 b).2.1 := by decide +kernel
theorem tyX0_ok : ∀ k, k < 5 → parseFieldDescriptor (TX0 k).2.2.1 = some (tyX0 k) := by decide +kernel
abbrev cX0_init : ByteArray := prog_2_method_1_code
def yX0_init : MethodName := ⟨RX0, "<init>", "(LBowedPlate$Ways;LBowedPlate$State;)V"⟩
abbrev cX0_clampsAllow : ByteArray := prog_2_method_2_code
def yX0_clampsAllow : MethodName := ⟨RX0, "clampsAllow", "(I)Z"⟩
abbrev cX0_bowAllows : ByteArray := prog_2_method_3_code
def yX0_bowAllows : MethodName := ⟨RX0, "bowAllows", "(III)Z"⟩
abbrev cX0_swingAtBow : ByteArray := prog_2_method_4_code
def yX0_swingAtBow : MethodName := ⟨RX0, "swingAtBow", "(III)I"⟩
abbrev cX0_wayFor : ByteArray := prog_2_method_5_code
def yX0_wayFor : MethodName := ⟨RX0, "wayFor", "(II)I"⟩
abbrev cX0_reasonOf : ByteArray := prog_2_method_6_code
def yX0_reasonOf : MethodName := ⟨RX0, "reasonOf", "(III)I"⟩
abbrev cX0_findPossible : ByteArray := prog_2_method_7_code
def yX0_findPossible : MethodName := ⟨RX0, "findPossible", "()V"⟩
abbrev cX0_takesBow : ByteArray := prog_2_method_8_code
def yX0_takesBow : MethodName := ⟨RX0, "takesBow", "(I)Z"⟩
def RX1 : String := "BowedPlate$Figure"
def TX1 : u_T := fun k => match k with
  | 0 => ("BowedPlate$Figure", "ways", "LBowedPlate$Ways;", true)
  | 1 => ("BowedPlate$Figure", "now", "LBowedPlate$State;", true)
  | 2 => ("BowedPlate$Figure", "isOpen", "[Z", true)
  | 3 => ("BowedPlate$Figure", "reached", "[I", true)
  | _ => ("BowedPlate$Figure", "reaches", "I", false)
def tyX1 : Nat → FieldType := fun k => match k with
  | 0 => .object "BowedPlate$Ways"
  | 1 => .object "BowedPlate$State"
  | 2 => .array .boolean
  | 3 => .array .int
  | _ => .int
abbrev wsX10 : List Cond := u_ws RX1 TX1 5
theorem nmX1 : ∀ a, a < 5 → ∀ b, b < 5 → a ≠ b → (TX1 a).2.1 ≠ (TX1 b).2.1 := by decide +kernel
theorem tyX1_ok : ∀ k, k < 5 → parseFieldDescriptor (TX1 k).2.2.1 = some (tyX1 k) := by decide +kernel
abbrev cX1_init : ByteArray := prog_3_method_1_code
def yX1_init : MethodName := ⟨RX1, "<init>", "(LBowedPlate$Ways;LBowedPlate$State;)V"⟩
abbrev cX1_isStill : ByteArray := prog_3_method_2_code
def yX1_isStill : MethodName := ⟨RX1, "isStill", "(III)Z"⟩
abbrev cX1_stillPlaces : ByteArray := prog_3_method_3_code
def yX1_stillPlaces : MethodName := ⟨RX1, "stillPlaces", "(I)I"⟩
abbrev cX1_grainsOnLines : ByteArray := prog_3_method_4_code
def yX1_grainsOnLines : MethodName := ⟨RX1, "grainsOnLines", "(I)I"⟩
abbrev cX1_lines : ByteArray := prog_3_method_5_code
def yX1_lines : MethodName := ⟨RX1, "lines", "(I)I"⟩
abbrev cX1_closeLine : ByteArray := prog_3_method_6_code
def yX1_closeLine : MethodName := ⟨RX1, "closeLine", "(I)V"⟩
abbrev cX1_reach : ByteArray := prog_3_method_7_code
def yX1_reach : MethodName := ⟨RX1, "reach", "(II)V"⟩
def RX2 : String := "BowedPlate$History"
def TX2 : u_T := fun k => match k with
  | 0 => ("BowedPlate$History", "states", "[LBowedPlate$State;", true)
  | 1 => ("BowedPlate$History", "oldest", "I", false)
  | _ => ("BowedPlate$History", "held", "I", false)
def tyX2 : Nat → FieldType := fun k => match k with
  | 0 => .array (.object "BowedPlate$State")
  | 1 => .int
  | _ => .int
abbrev wsX20 : List Cond := u_ws RX2 TX2 3
theorem nmX2 : ∀ a, a < 3 → ∀ b, b < 3 → a ≠ b → (TX2 a).2.1 ≠ (TX2 b).2.1 := by decide +kernel
theorem tyX2_ok : ∀ k, k < 3 → parseFieldDescriptor (TX2 k).2.2.1 = some (tyX2 k) := by decide +kernel
abbrev cX2_init : ByteArray := prog_4_method_1_code
def yX2_init : MethodName := ⟨RX2, "<init>", "()V"⟩
abbrev cX2_record : ByteArray := prog_4_method_2_code
def yX2_record : MethodName := ⟨RX2, "record", "(LBowedPlate$State;)V"⟩
abbrev cX2_takeLatest : ByteArray := prog_4_method_3_code
def yX2_takeLatest : MethodName := ⟨RX2, "takeLatest", "(LBowedPlate$State;)V"⟩
def RX3 : String := "BowedPlate$Mover"
def TX3 : u_T := fun k => match k with
  | 0 => ("BowedPlate$Mover", "ways", "LBowedPlate$Ways;", true)
  | 1 => ("BowedPlate$Mover", "now", "LBowedPlate$State;", true)
  | 2 => ("BowedPlate$Mover", "swings", "[I", true)
  | 3 => ("BowedPlate$Mover", "targets", "[I", true)
  | _ => ("BowedPlate$Mover", "arrivals", "[I", true)
def tyX3 : Nat → FieldType := fun k => match k with
  | 0 => .object "BowedPlate$Ways"
  | 1 => .object "BowedPlate$State"
  | 2 => .array .int
  | 3 => .array .int
  | _ => .array .int
abbrev wsX30 : List Cond := u_ws RX3 TX3 5
theorem nmX3 : ∀ a, a < 5 → ∀ b, b < 5 → a ≠ b → (TX3 a).2.1 ≠ (TX3 b).2.1 := by decide +kernel
theorem tyX3_ok : ∀ k, k < 5 → parseFieldDescriptor (TX3 k).2.2.1 = some (tyX3 k) := by decide +kernel
abbrev cX3_init : ByteArray := prog_5_method_1_code
def yX3_init : MethodName := ⟨RX3, "<init>", "(LBowedPlate$Ways;LBowedPlate$State;)V"⟩
abbrev cX3_stroke : ByteArray := prog_5_method_2_code
def yX3_stroke : MethodName := ⟨RX3, "stroke", "(II)V"⟩
abbrev cX3_targetOf : ByteArray := prog_5_method_3_code
def yX3_targetOf : MethodName := ⟨RX3, "targetOf", "(II)I"⟩
abbrev cX3_calmerOf : ByteArray := prog_5_method_4_code
def yX3_calmerOf : MethodName := ⟨RX3, "calmerOf", "(III)I"⟩
abbrev cX3_strokeOnce : ByteArray := prog_5_method_5_code
def yX3_strokeOnce : MethodName := ⟨RX3, "strokeOnce", "()V"⟩
abbrev cX3_shake : ByteArray := prog_5_method_6_code
def yX3_shake : MethodName := ⟨RX3, "shake", "(I)V"⟩
abbrev cX3_isAtEdge : ByteArray := prog_5_method_7_code
def yX3_isAtEdge : MethodName := ⟨RX3, "isAtEdge", "(I)Z"⟩
def RX4 : String := "BowedPlate$Piece"
def TX4 : u_T := fun k => match k with
  | 0 => ("BowedPlate$Piece", "limit", "I", true)
  | 1 => ("BowedPlate$Piece", "sides", "[I", true)
  | 2 => ("BowedPlate$Piece", "alongs", "[I", true)
  | 3 => ("BowedPlate$Piece", "strokes", "[I", true)
  | _ => ("BowedPlate$Piece", "size", "I", false)
def tyX4 : Nat → FieldType := fun k => match k with
  | 0 => .int
  | 1 => .array .int
  | 2 => .array .int
  | 3 => .array .int
  | _ => .int
abbrev wsX40 : List Cond := u_ws RX4 TX4 5
theorem nmX4 : ∀ a, a < 5 → ∀ b, b < 5 → a ≠ b → (TX4 a).2.1 ≠ (TX4 b).2.1 := by decide +kernel
theorem tyX4_ok : ∀ k, k < 5 → parseFieldDescriptor (TX4 k).2.2.1 = some (tyX4 k) := by decide +kernel
abbrev cX4_init : ByteArray := prog_6_method_1_code
def yX4_init : MethodName := ⟨RX4, "<init>", "(I)V"⟩
abbrev cX4_append : ByteArray := prog_6_method_2_code
def yX4_append : MethodName := ⟨RX4, "append", "(III)V"⟩
abbrev cX4_appendAll : ByteArray := prog_6_method_3_code
def yX4_appendAll : MethodName := ⟨RX4, "appendAll", "(LBowedPlate$Piece;)V"⟩
abbrev cX4_copyFrom : ByteArray := prog_6_method_4_code
def yX4_copyFrom : MethodName := ⟨RX4, "copyFrom", "(LBowedPlate$Piece;)V"⟩
abbrev cX4_dropFirst : ByteArray := prog_6_method_5_code
def yX4_dropFirst : MethodName := ⟨RX4, "dropFirst", "(I)V"⟩
abbrev cX4_sizeAt : ByteArray := prog_6_method_6_code
def yX4_sizeAt : MethodName := ⟨RX4, "sizeAt", "(I)I"⟩
abbrev cX4_dropSide : ByteArray := prog_6_method_7_code
def yX4_dropSide : MethodName := ⟨RX4, "dropSide", "(I)I"⟩
def RX5 : String := "BowedPlate$State"
def TX5 : u_T := fun k => match k with
  | 0 => ("BowedPlate$State", "grains", "[I", true)
  | 1 => ("BowedPlate$State", "clampColumns", "[I", true)
  | 2 => ("BowedPlate$State", "clampRows", "[I", true)
  | 3 => ("BowedPlate$State", "clamps", "I", false)
  | 4 => ("BowedPlate$State", "settings", "[I", true)
  | 5 => ("BowedPlate$State", "piece", "LBowedPlate$Piece;", true)
  | 6 => ("BowedPlate$State", "lastWay", "I", false)
  | 7 => ("BowedPlate$State", "strewn", "I", false)
  | 8 => ("BowedPlate$State", "swept", "I", false)
  | 9 => ("BowedPlate$State", "fallen", "I", false)
  | 10 => ("BowedPlate$State", "strokes", "I", false)
  | _ => ("BowedPlate$State", "mutes", "I", false)
def tyX5 : Nat → FieldType := fun k => match k with
  | 0 => .array .int
  | 1 => .array .int
  | 2 => .array .int
  | 3 => .int
  | 4 => .array .int
  | 5 => .object "BowedPlate$Piece"
  | 6 => .int
  | 7 => .int
  | 8 => .int
  | 9 => .int
  | 10 => .int
  | _ => .int
abbrev wsX50 : List Cond := u_ws RX5 TX5 12
theorem nmX5 : ∀ a, a < 12 → ∀ b, b < 12 → a ≠ b → (TX5 a).2.1 ≠ (TX5 b).2.1 := by decide +kernel
theorem tyX5_ok : ∀ k, k < 12 → parseFieldDescriptor (TX5 k).2.2.1 = some (tyX5 k) := by decide +kernel
abbrev cX5_init : ByteArray := prog_7_method_1_code
def yX5_init : MethodName := ⟨RX5, "<init>", "()V"⟩
abbrev cX5_copyFrom : ByteArray := prog_7_method_2_code
def yX5_copyFrom : MethodName := ⟨RX5, "copyFrom", "(LBowedPlate$State;)V"⟩
abbrev cX5_coverWith : ByteArray := prog_7_method_3_code
def yX5_coverWith : MethodName := ⟨RX5, "coverWith", "(I)V"⟩
abbrev cX5_allGrains : ByteArray := prog_7_method_4_code
def yX5_allGrains : MethodName := ⟨RX5, "allGrains", "()I"⟩
abbrev cX5_mostGrains : ByteArray := prog_7_method_5_code
def yX5_mostGrains : MethodName := ⟨RX5, "mostGrains", "()I"⟩
abbrev cX5_clampOn : ByteArray := prog_7_method_6_code
def yX5_clampOn : MethodName := ⟨RX5, "clampOn", "(II)I"⟩
abbrev cX5_dropClamp : ByteArray := prog_7_method_7_code
def yX5_dropClamp : MethodName := ⟨RX5, "dropClamp", "(I)V"⟩
def RX6 : String := "BowedPlate$Text"
def TX6 : u_T := fun k => match k with
  | 0 => ("BowedPlate$Text", "characters", "[C", true)
  | 1 => ("BowedPlate$Text", "length", "I", false)
  | 2 => ("BowedPlate$Text", "piece", "LBowedPlate$Piece;", true)
  | _ => ("BowedPlate$Text", "cursor", "I", false)
def tyX6 : Nat → FieldType := fun k => match k with
  | 0 => .array .char
  | 1 => .int
  | 2 => .object "BowedPlate$Piece"
  | _ => .int
abbrev wsX60 : List Cond := u_ws RX6 TX6 4
theorem nmX6 : ∀ a, a < 4 → ∀ b, b < 4 → a ≠ b → (TX6 a).2.1 ≠ (TX6 b).2.1 := by decide +kernel
theorem tyX6_ok : ∀ k, k < 4 → parseFieldDescriptor (TX6 k).2.2.1 = some (tyX6 k) := by decide +kernel
abbrev cX6_init : ByteArray := prog_8_method_1_code
def yX6_init : MethodName := ⟨RX6, "<init>", "()V"⟩
abbrev cX6_append : ByteArray := prog_8_method_2_code
def yX6_append : MethodName := ⟨RX6, "append", "(C)V"⟩
abbrev cX6_read : ByteArray := prog_8_method_3_code
def yX6_read : MethodName := ⟨RX6, "read", "()Z"⟩
abbrev cX6_fault : ByteArray := prog_8_method_4_code
def yX6_fault : MethodName := ⟨RX6, "fault", "()I"⟩
abbrev cX6_next : ByteArray := prog_8_method_5_code
def yX6_next : MethodName := ⟨RX6, "next", "()I"⟩
abbrev cX6_readBowing : ByteArray := prog_8_method_6_code
def yX6_readBowing : MethodName := ⟨RX6, "readBowing", "()Z"⟩
abbrev cX6_sideOf : ByteArray := prog_8_method_7_code
def yX6_sideOf : MethodName := ⟨RX6, "sideOf", "(I)I"⟩
abbrev cX6_digitOf : ByteArray := prog_8_method_8_code
def yX6_digitOf : MethodName := ⟨RX6, "digitOf", "(I)I"⟩
abbrev cX6_readNumber : ByteArray := prog_8_method_9_code
def yX6_readNumber : MethodName := ⟨RX6, "readNumber", "(II)I"⟩
def RX7 : String := "BowedPlate$Ways"
def TX7 : u_T := fun k => match k with
  | 0 => ("BowedPlate$Ways", "lesser", "[I", true)
  | 1 => ("BowedPlate$Ways", "greater", "[I", true)
  | 2 => ("BowedPlate$Ways", "sign", "[I", true)
  | 3 => ("BowedPlate$Ways", "heights", "[I", true)
  | _ => ("BowedPlate$Ways", "listed", "I", false)
def tyX7 : Nat → FieldType := fun k => match k with
  | 0 => .array .int
  | 1 => .array .int
  | 2 => .array .int
  | 3 => .array .int
  | _ => .int
abbrev wsX70 : List Cond := u_ws RX7 TX7 5
theorem nmX7 : ∀ a, a < 5 → ∀ b, b < 5 → a ≠ b → (TX7 a).2.1 ≠ (TX7 b).2.1 := by decide +kernel
theorem tyX7_ok : ∀ k, k < 5 → parseFieldDescriptor (TX7 k).2.2.1 = some (tyX7 k) := by decide +kernel
abbrev cX7_init : ByteArray := prog_9_method_1_code
def yX7_init : MethodName := ⟨RX7, "<init>", "()V"⟩
abbrev cX7_waveHeight : ByteArray := prog_9_method_2_code
def yX7_waveHeight : MethodName := ⟨RX7, "waveHeight", "(II)I"⟩
abbrev cX7_listWaysOf : ByteArray := prog_9_method_3_code
def yX7_listWaysOf : MethodName := ⟨RX7, "listWaysOf", "(II)V"⟩
abbrev cX7_noteOf : ByteArray := prog_9_method_4_code
def yX7_noteOf : MethodName := ⟨RX7, "noteOf", "(I)I"⟩
abbrev cX7_swingAt : ByteArray := prog_9_method_5_code
def yX7_swingAt : MethodName := ⟨RX7, "swingAt", "(III)I"⟩
def RX8 : String := "BowedPlate"
def TX8 : u_T := fun k => match k with
  | 0 => ("BowedPlate", "ways", "LBowedPlate$Ways;", true)
  | 1 => ("BowedPlate", "now", "LBowedPlate$State;", true)
  | 2 => ("BowedPlate", "choice", "LBowedPlate$Choice;", true)
  | 3 => ("BowedPlate", "figure", "LBowedPlate$Figure;", true)
  | 4 => ("BowedPlate", "mover", "LBowedPlate$Mover;", true)
  | 5 => ("BowedPlate", "text", "LBowedPlate$Text;", true)
  | 6 => ("BowedPlate", "history", "LBowedPlate$History;", true)
  | 7 => ("BowedPlate", "snapshot", "LBowedPlate$State;", true)
  | _ => ("BowedPlate", "hasSnapshot", "Z", false)
def tyX8 : Nat → FieldType := fun k => match k with
  | 0 => .object "BowedPlate$Ways"
  | 1 => .object "BowedPlate$State"
  | 2 => .object "BowedPlate$Choice"
  | 3 => .object "BowedPlate$Figure"
  | 4 => .object "BowedPlate$Mover"
  | 5 => .object "BowedPlate$Text"
  | 6 => .object "BowedPlate$History"
  | 7 => .object "BowedPlate$State"
  | _ => .boolean
abbrev wsX80 : List Cond := u_ws RX8 TX8 9
theorem nmX8 : ∀ a, a < 9 → ∀ b, b < 9 → a ≠ b → (TX8 a).2.1 ≠ (TX8 b).2.1 := by decide +kernel
theorem tyX8_ok : ∀ k, k < 9 → parseFieldDescriptor (TX8 k).2.2.1 = some (tyX8 k) := by decide +kernel
abbrev cX8_init : ByteArray := prog_1_method_1_code
def yX8_init : MethodName := ⟨RX8, "<init>", "()V"⟩
abbrev cX8_strew : ByteArray := prog_1_method_2_code
def yX8_strew : MethodName := ⟨RX8, "strew", "(III)I"⟩
abbrev cX8_sweep : ByteArray := prog_1_method_3_code
def yX8_sweep : MethodName := ⟨RX8, "sweep", "(I)I"⟩
abbrev cX8_clamp : ByteArray := prog_1_method_4_code
def yX8_clamp : MethodName := ⟨RX8, "clamp", "(II)I"⟩
abbrev cX8_unclamp : ByteArray := prog_1_method_5_code
def yX8_unclamp : MethodName := ⟨RX8, "unclamp", "(I)I"⟩
abbrev cX8_set : ByteArray := prog_1_method_6_code
def yX8_set : MethodName := ⟨RX8, "set", "(II)I"⟩
abbrev cX8_bow : ByteArray := prog_1_method_7_code
def yX8_bow : MethodName := ⟨RX8, "bow", "(III)I"⟩
abbrev cX8_bowAll : ByteArray := prog_1_method_8_code
def yX8_bowAll : MethodName := ⟨RX8, "bowAll", "()I"⟩
abbrev cX8_strike : ByteArray := prog_1_method_9_code
def yX8_strike : MethodName := ⟨RX8, "strike", "(I)I"⟩
abbrev cX8_play : ByteArray := prog_1_method_10_code
def yX8_play : MethodName := ⟨RX8, "play", "(I)I"⟩
abbrev cX8_type : ByteArray := prog_1_method_11_code
def yX8_type : MethodName := ⟨RX8, "type", "(C)I"⟩
abbrev cX8_clearText : ByteArray := prog_1_method_12_code
def yX8_clearText : MethodName := ⟨RX8, "clearText", "()I"⟩
abbrev cX8_undo : ByteArray := prog_1_method_13_code
def yX8_undo : MethodName := ⟨RX8, "undo", "()I"⟩
abbrev cX8_keep : ByteArray := prog_1_method_14_code
def yX8_keep : MethodName := ⟨RX8, "keep", "()I"⟩
abbrev cX8_restore : ByteArray := prog_1_method_15_code
def yX8_restore : MethodName := ⟨RX8, "restore", "()I"⟩
abbrev cX8_place : ByteArray := prog_1_method_16_code
def yX8_place : MethodName := ⟨RX8, "place", "(III)I"⟩
abbrev cX8_way : ByteArray := prog_1_method_17_code
def yX8_way : MethodName := ⟨RX8, "way", "(II)I"⟩
abbrev cX8_swing : ByteArray := prog_1_method_18_code
def yX8_swing : MethodName := ⟨RX8, "swing", "(III)I"⟩
abbrev cX8_sounds : ByteArray := prog_1_method_19_code
def yX8_sounds : MethodName := ⟨RX8, "sounds", "(II)I"⟩
abbrev cX8_why : ByteArray := prog_1_method_20_code
def yX8_why : MethodName := ⟨RX8, "why", "(III)I"⟩
abbrev cX8_possible : ByteArray := prog_1_method_21_code
def yX8_possible : MethodName := ⟨RX8, "possible", "(I)I"⟩
abbrev cX8_waiting : ByteArray := prog_1_method_22_code
def yX8_waiting : MethodName := ⟨RX8, "waiting", "(II)I"⟩
abbrev cX8_sand : ByteArray := prog_1_method_23_code
def yX8_sand : MethodName := ⟨RX8, "sand", "(ZI)I"⟩
abbrev cX8_count : ByteArray := prog_1_method_24_code
def yX8_count : MethodName := ⟨RX8, "count", "(I)I"⟩
abbrev cX8_clampAt : ByteArray := prog_1_method_25_code
def yX8_clampAt : MethodName := ⟨RX8, "clampAt", "(IZ)I"⟩
abbrev cX8_playBowing : ByteArray := prog_1_method_26_code
def yX8_playBowing : MethodName := ⟨RX8, "playBowing", "(I)Z"⟩
abbrev cX8_isClamp : ByteArray := prog_1_method_27_code
def yX8_isClamp : MethodName := ⟨RX8, "isClamp", "(I)Z"⟩
abbrev cX8_isLine : ByteArray := prog_1_method_28_code
def yX8_isLine : MethodName := ⟨RX8, "isLine", "(I)Z"⟩
abbrev cX8_isPlace : ByteArray := prog_1_method_29_code
def yX8_isPlace : MethodName := ⟨RX8, "isPlace", "(II)Z"⟩
abbrev cX8_isWay : ByteArray := prog_1_method_30_code
def yX8_isWay : MethodName := ⟨RX8, "isWay", "(I)Z"⟩
abbrev cX8_isBow : ByteArray := prog_1_method_31_code
def yX8_isBow : MethodName := ⟨RX8, "isBow", "(II)Z"⟩
abbrev cX8_placeOf : ByteArray := prog_1_method_32_code
def yX8_placeOf : MethodName := ⟨RX8, "placeOf", "(II)I"⟩
abbrev cX8_columnOf : ByteArray := prog_1_method_33_code
def yX8_columnOf : MethodName := ⟨RX8, "columnOf", "(I)I"⟩
abbrev cX8_rowOf : ByteArray := prog_1_method_34_code
def yX8_rowOf : MethodName := ⟨RX8, "rowOf", "(I)I"⟩
abbrev cX8_orNone : ByteArray := prog_1_method_35_code
def yX8_orNone : MethodName := ⟨RX8, "orNone", "(I)I"⟩
abbrev cX8_asNumber : ByteArray := prog_1_method_36_code
def yX8_asNumber : MethodName := ⟨RX8, "asNumber", "(Z)I"⟩
def RX9 : String := "BowedPlateModel"
def TX9 : u_T := fun k => match k with
  | 0 => ("BowedPlateModel", "low", "[I", true)
  | 1 => ("BowedPlateModel", "high", "[I", true)
  | 2 => ("BowedPlateModel", "minus", "[I", true)
  | 3 => ("BowedPlateModel", "swings", "[I", true)
  | 4 => ("BowedPlateModel", "s", "[I", true)
  | 5 => ("BowedPlateModel", "before", "[I", true)
  | 6 => ("BowedPlateModel", "known", "I", false)
  | 7 => ("BowedPlateModel", "kept", "[I", true)
  | 8 => ("BowedPlateModel", "isKept", "Z", false)
  | 9 => ("BowedPlateModel", "text", "[I", true)
  | 10 => ("BowedPlateModel", "typed", "I", false)
  | 11 => ("BowedPlateModel", "more", "[I", true)
  | 12 => ("BowedPlateModel", "at", "I", false)
  | 13 => ("BowedPlateModel", "isWrong", "Z", false)
  | 14 => ("BowedPlateModel", "isMet", "[Z", true)
  | _ => ("BowedPlateModel", "row", "[I", true)
def tyX9 : Nat → FieldType := fun k => match k with
  | 0 => .array .int
  | 1 => .array .int
  | 2 => .array .int
  | 3 => .array .int
  | 4 => .array .int
  | 5 => .array .int
  | 6 => .int
  | 7 => .array .int
  | 8 => .boolean
  | 9 => .array .int
  | 10 => .int
  | 11 => .array .int
  | 12 => .int
  | 13 => .boolean
  | 14 => .array .boolean
  | _ => .array .int
abbrev wsX90 : List Cond := u_ws RX9 TX9 16
theorem nmX9 : ∀ a, a < 16 → ∀ b, b < 16 → a ≠ b → (TX9 a).2.1 ≠ (TX9 b).2.1 := by decide +kernel
theorem tyX9_ok : ∀ k, k < 16 → parseFieldDescriptor (TX9 k).2.2.1 = some (tyX9 k) := by decide +kernel
abbrev cX9_init : ByteArray := prog_11_method_1_code
def yX9_init : MethodName := ⟨RX9, "<init>", "()V"⟩
abbrev cX9_in : ByteArray := prog_11_method_3_code
def yX9_in : MethodName := ⟨RX9, "in", "(III)Z"⟩
abbrev cX9_wave : ByteArray := prog_11_method_4_code
def yX9_wave : MethodName := ⟨RX9, "wave", "(II)I"⟩
abbrev cX9_size : ByteArray := prog_11_method_5_code
def yX9_size : MethodName := ⟨RX9, "size", "(I)I"⟩
abbrev cX9_noteOf : ByteArray := prog_11_method_6_code
def yX9_noteOf : MethodName := ⟨RX9, "noteOf", "(I)I"⟩
abbrev cX9_findWays : ByteArray := prog_11_method_7_code
def yX9_findWays : MethodName := ⟨RX9, "findWays", "()V"⟩
abbrev cX9_swingAt : ByteArray := prog_11_method_8_code
def yX9_swingAt : MethodName := ⟨RX9, "swingAt", "(II)I"⟩
abbrev cX9_isOn : ByteArray := prog_11_method_9_code
def yX9_isOn : MethodName := ⟨RX9, "isOn", "(II)Z"⟩
abbrev cX9_isWay : ByteArray := prog_11_method_10_code
def yX9_isWay : MethodName := ⟨RX9, "isWay", "(I)Z"⟩
abbrev cX9_isBow : ByteArray := prog_11_method_11_code
def yX9_isBow : MethodName := ⟨RX9, "isBow", "(II)Z"⟩
abbrev cX9_know : ByteArray := prog_11_method_12_code
def yX9_know : MethodName := ⟨RX9, "know", "()V"⟩
abbrev cX9_bowPlace : ByteArray := prog_11_method_13_code
def yX9_bowPlace : MethodName := ⟨RX9, "bowPlace", "(II)I"⟩
abbrev cX9_isHeld : ByteArray := prog_11_method_14_code
def yX9_isHeld : MethodName := ⟨RX9, "isHeld", "(I)Z"⟩
abbrev cX9_canSound : ByteArray := prog_11_method_15_code
def yX9_canSound : MethodName := ⟨RX9, "canSound", "(II)Z"⟩
abbrev cX9_soundsAt : ByteArray := prog_11_method_16_code
def yX9_soundsAt : MethodName := ⟨RX9, "soundsAt", "(I)I"⟩
abbrev cX9_isPossible : ByteArray := prog_11_method_17_code
def yX9_isPossible : MethodName := ⟨RX9, "isPossible", "(I)Z"⟩
abbrev cX9_isEdge : ByteArray := prog_11_method_18_code
def yX9_isEdge : MethodName := ⟨RX9, "isEdge", "(I)Z"⟩
abbrev cX9_calmest : ByteArray := prog_11_method_19_code
def yX9_calmest : MethodName := ⟨RX9, "calmest", "(II)I"⟩
abbrev cX9_stroke : ByteArray := prog_11_method_20_code
def yX9_stroke : MethodName := ⟨RX9, "stroke", "(I)V"⟩
abbrev cX9_allGrains : ByteArray := prog_11_method_21_code
def yX9_allGrains : MethodName := ⟨RX9, "allGrains", "()I"⟩
abbrev cX9_strew : ByteArray := prog_11_method_22_code
def yX9_strew : MethodName := ⟨RX9, "strew", "(III)I"⟩
abbrev cX9_sweep : ByteArray := prog_11_method_23_code
def yX9_sweep : MethodName := ⟨RX9, "sweep", "(I)I"⟩
abbrev cX9_clampOn : ByteArray := prog_11_method_24_code
def yX9_clampOn : MethodName := ⟨RX9, "clampOn", "(I)I"⟩
abbrev cX9_clamp : ByteArray := prog_11_method_25_code
def yX9_clamp : MethodName := ⟨RX9, "clamp", "(II)I"⟩
abbrev cX9_unclamp : ByteArray := prog_11_method_26_code
def yX9_unclamp : MethodName := ⟨RX9, "unclamp", "(I)I"⟩
abbrev cX9_set : ByteArray := prog_11_method_27_code
def yX9_set : MethodName := ⟨RX9, "set", "(II)I"⟩
abbrev cX9_waits : ByteArray := prog_11_method_28_code
def yX9_waits : MethodName := ⟨RX9, "waits", "(III)I"⟩
abbrev cX9_bow : ByteArray := prog_11_method_29_code
def yX9_bow : MethodName := ⟨RX9, "bow", "(III)I"⟩
abbrev cX9_strikeAt : ByteArray := prog_11_method_30_code
def yX9_strikeAt : MethodName := ⟨RX9, "strikeAt", "(I)V"⟩
abbrev cX9_strike : ByteArray := prog_11_method_31_code
def yX9_strike : MethodName := ⟨RX9, "strike", "(I)I"⟩
abbrev cX9_play : ByteArray := prog_11_method_32_code
def yX9_play : MethodName := ⟨RX9, "play", "(I)I"⟩
abbrev cX9_type : ByteArray := prog_11_method_33_code
def yX9_type : MethodName := ⟨RX9, "type", "(C)I"⟩
abbrev cX9_clearText : ByteArray := prog_11_method_34_code
def yX9_clearText : MethodName := ⟨RX9, "clearText", "()I"⟩
abbrev cX9_sign : ByteArray := prog_11_method_35_code
def yX9_sign : MethodName := ⟨RX9, "sign", "(II)I"⟩
abbrev cX9_number : ByteArray := prog_11_method_36_code
def yX9_number : MethodName := ⟨RX9, "number", "(II)I"⟩
abbrev cX9_go : ByteArray := prog_11_method_37_code
def yX9_go : MethodName := ⟨RX9, "go", "(Z)I"⟩
abbrev cX9_bowAll : ByteArray := prog_11_method_38_code
def yX9_bowAll : MethodName := ⟨RX9, "bowAll", "()I"⟩
abbrev cX9_undo : ByteArray := prog_11_method_39_code
def yX9_undo : MethodName := ⟨RX9, "undo", "()I"⟩
abbrev cX9_keep : ByteArray := prog_11_method_40_code
def yX9_keep : MethodName := ⟨RX9, "keep", "()I"⟩
abbrev cX9_restore : ByteArray := prog_11_method_41_code
def yX9_restore : MethodName := ⟨RX9, "restore", "()I"⟩
abbrev cX9_isStill : ByteArray := prog_11_method_42_code
def yX9_isStill : MethodName := ⟨RX9, "isStill", "(II)Z"⟩
abbrev cX9_place : ByteArray := prog_11_method_43_code
def yX9_place : MethodName := ⟨RX9, "place", "(III)I"⟩
abbrev cX9_still : ByteArray := prog_11_method_44_code
def yX9_still : MethodName := ⟨RX9, "still", "(II)I"⟩
abbrev cX9_lines : ByteArray := prog_11_method_45_code
def yX9_lines : MethodName := ⟨RX9, "lines", "(I)I"⟩
abbrev cX9_meet : ByteArray := prog_11_method_46_code
def yX9_meet : MethodName := ⟨RX9, "meet", "(I)V"⟩
abbrev cX9_way : ByteArray := prog_11_method_47_code
def yX9_way : MethodName := ⟨RX9, "way", "(II)I"⟩
abbrev cX9_swing : ByteArray := prog_11_method_48_code
def yX9_swing : MethodName := ⟨RX9, "swing", "(III)I"⟩
abbrev cX9_sounds : ByteArray := prog_11_method_49_code
def yX9_sounds : MethodName := ⟨RX9, "sounds", "(II)I"⟩
abbrev cX9_why : ByteArray := prog_11_method_50_code
def yX9_why : MethodName := ⟨RX9, "why", "(III)I"⟩
abbrev cX9_possible : ByteArray := prog_11_method_51_code
def yX9_possible : MethodName := ⟨RX9, "possible", "(I)I"⟩
abbrev cX9_waiting : ByteArray := prog_11_method_52_code
def yX9_waiting : MethodName := ⟨RX9, "waiting", "(II)I"⟩
abbrev cX9_sand : ByteArray := prog_11_method_53_code
def yX9_sand : MethodName := ⟨RX9, "sand", "(ZI)I"⟩
abbrev cX9_possibles : ByteArray := prog_11_method_54_code
def yX9_possibles : MethodName := ⟨RX9, "possibles", "()I"⟩
abbrev cX9_mostGrains : ByteArray := prog_11_method_55_code
def yX9_mostGrains : MethodName := ⟨RX9, "mostGrains", "()I"⟩
abbrev cX9_count : ByteArray := prog_11_method_56_code
def yX9_count : MethodName := ⟨RX9, "count", "(I)I"⟩
abbrev cX9_clampAt : ByteArray := prog_11_method_57_code
def yX9_clampAt : MethodName := ⟨RX9, "clampAt", "(IZ)I"⟩
def RJ9 : String := "java/lang/Math"
def TJ9 : u_T := fun k => match k with
  | _ => ("", "", "", false)
def tyJ9 : Nat → FieldType := fun k => match k with
  | _ => .int
abbrev wsJ90 : List Cond := u_ws RJ9 TJ9 0
theorem nmJ9 : ∀ a, a < 0 → ∀ b, b < 0 → a ≠ b → (TJ9 a).2.1 ≠ (TJ9 b).2.1 := by decide +kernel
theorem tyJ9_ok : ∀ k, k < 0 → parseFieldDescriptor (TJ9 k).2.2.1 = some (tyJ9 k) := by decide +kernel
abbrev cJ9_abs_0f7a4 : ByteArray := prog_12_method_59_code
def yJ9_abs_0f7a4 : MethodName := ⟨RJ9, "abs", "(I)I"⟩
abbrev cJ9_max_7cf53 : ByteArray := prog_12_method_65_code
def yJ9_max_7cf53 : MethodName := ⟨RJ9, "max", "(II)I"⟩
abbrev cJ9_min_7cf53 : ByteArray := prog_12_method_69_code
def yJ9_min_7cf53 : MethodName := ⟨RJ9, "min", "(II)I"⟩
def RJ10 : String := "java/lang/System"
def TJ10 : u_T := fun k => match k with
  | _ => ("", "", "", false)
def tyJ10 : Nat → FieldType := fun k => match k with
  | _ => .int
abbrev wsJ100 : List Cond := u_ws RJ10 TJ10 0
theorem nmJ10 : ∀ a, a < 0 → ∀ b, b < 0 → a ≠ b → (TJ10 a).2.1 ≠ (TJ10 b).2.1 := by decide +kernel
theorem tyJ10_ok : ∀ k, k < 0 → parseFieldDescriptor (TJ10 k).2.2.1 = some (tyJ10 k) := by decide +kernel
def RL : String := "BowedPlateLaw"
abbrev cL_law : ByteArray := code
def yL_law : MethodName := ⟨RL, "law", "([I)Z"⟩
def wsX0_init : List Cond := .code yX0_init cX0_init 3 none :: ([.methodLink RX0 3 objectInit, .instanceMethod objectInit, .code objectInit ⟨#[0xb1]⟩ 1 none, .arrayClass .int, .fieldLink RX0 9 "BowedPlate$Choice" "possibleWay" "[I", .fieldLink RX0 15 "BowedPlate$Choice" "possibleWays" "I", .arrayClass .boolean, .fieldLink RX0 19 "BowedPlate$Choice" "isTaken" "[Z", .fieldLink RX0 23 "BowedPlate$Choice" "ways" "LBowedPlate$Ways;", .fieldLink RX0 27 "BowedPlate$Choice" "now" "LBowedPlate$State;"] ++ wsX00)
def wsX8_isWay : List Cond := .code yX8_isWay cX8_isWay 1 (some .boolean) :: ([])
def wsX8_isPlace : List Cond := .code yX8_isPlace cX8_isPlace 2 (some .boolean) :: ([])
def wsX7_swingAt : List Cond := .code yX7_swingAt cX7_swingAt 8 (some .int) :: ([.fieldLink RX7 9 "BowedPlate$Ways" "lesser" "[I", .fieldLink RX7 15 "BowedPlate$Ways" "greater" "[I", .fieldLink RX7 21 "BowedPlate$Ways" "heights" "[I", .fieldLink RX7 18 "BowedPlate$Ways" "sign" "[I", .methodLink RX7 44 Lib.Math.abs.name, .static Lib.Math.abs.name, .initialized "java/lang/Math", .code Lib.Math.abs.name Lib.Math.abs.code 1 (some .int), .static yX8_isWay, .initialized RX8, .code yX8_isWay cX8_isWay 1 (some .boolean), .static yX8_isPlace, .code yX8_isPlace cX8_isPlace 2 (some .boolean)] ++ wsX70)
def wsX0_clampsAllow : List Cond := .code yX0_clampsAllow cX0_clampsAllow 4 (some .boolean) :: ([.fieldLink RX0 27 "BowedPlate$Choice" "now" "LBowedPlate$State;", .fieldLink RX0 23 "BowedPlate$Choice" "ways" "LBowedPlate$Ways;", .methodLink RX0 42 yX7_swingAt, .instanceMethod yX7_swingAt, .selects RX7 yX7_swingAt yX7_swingAt, .initialized RX7, .code yX7_swingAt cX7_swingAt 8 (some .int), .fieldLink RX7 9 "BowedPlate$Ways" "lesser" "[I", .fieldLink RX7 15 "BowedPlate$Ways" "greater" "[I", .fieldLink RX7 21 "BowedPlate$Ways" "heights" "[I", .fieldLink RX7 18 "BowedPlate$Ways" "sign" "[I", .methodLink RX7 44 Lib.Math.abs.name, .static Lib.Math.abs.name, .initialized "java/lang/Math", .code Lib.Math.abs.name Lib.Math.abs.code 1 (some .int), .static yX8_isWay, .initialized RX8, .code yX8_isWay cX8_isWay 1 (some .boolean), .static yX8_isPlace, .code yX8_isPlace cX8_isPlace 2 (some .boolean)] ++ wsX00 ++ wsX50 ++ wsX70)
def wsX0_swingAtBow : List Cond := .code yX0_swingAtBow cX0_swingAtBow 4 (some .int) :: ([.fieldLink RX0 23 "BowedPlate$Choice" "ways" "LBowedPlate$Ways;", .methodLink RX0 42 yX7_swingAt, .instanceMethod yX7_swingAt, .selects RX7 yX7_swingAt yX7_swingAt, .initialized RX7, .code yX7_swingAt cX7_swingAt 8 (some .int), .fieldLink RX7 9 "BowedPlate$Ways" "lesser" "[I", .fieldLink RX7 15 "BowedPlate$Ways" "greater" "[I", .fieldLink RX7 21 "BowedPlate$Ways" "heights" "[I", .fieldLink RX7 18 "BowedPlate$Ways" "sign" "[I", .methodLink RX7 44 Lib.Math.abs.name, .static Lib.Math.abs.name, .initialized "java/lang/Math", .code Lib.Math.abs.name Lib.Math.abs.code 1 (some .int), .static yX8_isWay, .initialized RX8, .code yX8_isWay cX8_isWay 1 (some .boolean), .static yX8_isPlace, .code yX8_isPlace cX8_isPlace 2 (some .boolean)] ++ wsX00 ++ wsX70)
def wsX0_bowAllows_r1 : List Cond := [Cond.fieldLink RX0 27 "BowedPlate$Choice" "now" "LBowedPlate$State;", Cond.methodLink RX0 51 yX0_swingAtBow, Cond.instanceMethod yX0_swingAtBow, Cond.selects RX0 yX0_swingAtBow yX0_swingAtBow, Cond.initialized RX0, Cond.code yX0_swingAtBow cX0_swingAtBow 4 (some .int), Cond.fieldLink RX0 23 "BowedPlate$Choice" "ways" "LBowedPlate$Ways;", Cond.methodLink RX0 42 yX7_swingAt, Cond.instanceMethod yX7_swingAt, Cond.selects RX7 yX7_swingAt yX7_swingAt, Cond.initialized RX7, Cond.code yX7_swingAt cX7_swingAt 8 (some .int), Cond.fieldLink RX7 9 "BowedPlate$Ways" "lesser" "[I", Cond.fieldLink RX7 15 "BowedPlate$Ways" "greater" "[I", Cond.fieldLink RX7 21 "BowedPlate$Ways" "heights" "[I", Cond.fieldLink RX7 18 "BowedPlate$Ways" "sign" "[I", Cond.methodLink RX7 44 Lib.Math.abs.name, Cond.static Lib.Math.abs.name, Cond.initialized "java/lang/Math", Cond.code Lib.Math.abs.name Lib.Math.abs.code 1 (some .int), Cond.static yX8_isWay, Cond.initialized RX8, Cond.code yX8_isWay cX8_isWay 1 (some .boolean), Cond.static yX8_isPlace]
def wsX0_bowAllows_r2 : List Cond := [Cond.code yX8_isPlace cX8_isPlace 2 (some .boolean)]
def wsX0_bowAllows : List Cond := .code yX0_bowAllows cX0_bowAllows 4 (some .boolean) :: ((wsX0_bowAllows_r1 ++ wsX0_bowAllows_r2) ++ wsX00 ++ wsX50 ++ wsX70)
def wsX0_wayFor_r1 : List Cond := [Cond.methodLink RX0 54 yX0_bowAllows, Cond.instanceMethod yX0_bowAllows, Cond.selects RX0 yX0_bowAllows yX0_bowAllows, Cond.initialized RX0, Cond.code yX0_bowAllows cX0_bowAllows 4 (some .boolean), Cond.fieldLink RX0 27 "BowedPlate$Choice" "now" "LBowedPlate$State;", Cond.methodLink RX0 51 yX0_swingAtBow, Cond.instanceMethod yX0_swingAtBow, Cond.selects RX0 yX0_swingAtBow yX0_swingAtBow, Cond.code yX0_swingAtBow cX0_swingAtBow 4 (some .int), Cond.fieldLink RX0 23 "BowedPlate$Choice" "ways" "LBowedPlate$Ways;", Cond.methodLink RX0 42 yX7_swingAt, Cond.instanceMethod yX7_swingAt, Cond.selects RX7 yX7_swingAt yX7_swingAt, Cond.initialized RX7, Cond.code yX7_swingAt cX7_swingAt 8 (some .int), Cond.fieldLink RX7 9 "BowedPlate$Ways" "lesser" "[I", Cond.fieldLink RX7 15 "BowedPlate$Ways" "greater" "[I", Cond.fieldLink RX7 21 "BowedPlate$Ways" "heights" "[I", Cond.fieldLink RX7 18 "BowedPlate$Ways" "sign" "[I", Cond.methodLink RX7 44 Lib.Math.abs.name, Cond.static Lib.Math.abs.name, Cond.initialized "java/lang/Math", Cond.code Lib.Math.abs.name Lib.Math.abs.code 1 (some .int)]
def wsX0_wayFor_r2 : List Cond := [Cond.static yX8_isWay, Cond.initialized RX8, Cond.code yX8_isWay cX8_isWay 1 (some .boolean), Cond.static yX8_isPlace, Cond.code yX8_isPlace cX8_isPlace 2 (some .boolean), Cond.methodLink RX0 58 yX0_clampsAllow, Cond.instanceMethod yX0_clampsAllow, Cond.selects RX0 yX0_clampsAllow yX0_clampsAllow, Cond.code yX0_clampsAllow cX0_clampsAllow 4 (some .boolean)]
def wsX0_wayFor : List Cond := .code yX0_wayFor cX0_wayFor 4 (some .int) :: ((wsX0_wayFor_r1 ++ wsX0_wayFor_r2) ++ wsX00 ++ wsX50 ++ wsX70)
def wsX0_reasonOf_r1 : List Cond := [Cond.methodLink RX0 58 yX0_clampsAllow, Cond.instanceMethod yX0_clampsAllow, Cond.selects RX0 yX0_clampsAllow yX0_clampsAllow, Cond.initialized RX0, Cond.code yX0_clampsAllow cX0_clampsAllow 4 (some .boolean), Cond.fieldLink RX0 27 "BowedPlate$Choice" "now" "LBowedPlate$State;", Cond.fieldLink RX0 23 "BowedPlate$Choice" "ways" "LBowedPlate$Ways;", Cond.methodLink RX0 42 yX7_swingAt, Cond.instanceMethod yX7_swingAt, Cond.selects RX7 yX7_swingAt yX7_swingAt, Cond.initialized RX7, Cond.code yX7_swingAt cX7_swingAt 8 (some .int), Cond.fieldLink RX7 9 "BowedPlate$Ways" "lesser" "[I", Cond.fieldLink RX7 15 "BowedPlate$Ways" "greater" "[I", Cond.fieldLink RX7 21 "BowedPlate$Ways" "heights" "[I", Cond.fieldLink RX7 18 "BowedPlate$Ways" "sign" "[I", Cond.methodLink RX7 44 Lib.Math.abs.name, Cond.static Lib.Math.abs.name, Cond.initialized "java/lang/Math", Cond.code Lib.Math.abs.name Lib.Math.abs.code 1 (some .int), Cond.static yX8_isWay, Cond.initialized RX8, Cond.code yX8_isWay cX8_isWay 1 (some .boolean), Cond.static yX8_isPlace]
def wsX0_reasonOf_r2 : List Cond := [Cond.code yX8_isPlace cX8_isPlace 2 (some .boolean), Cond.methodLink RX0 54 yX0_bowAllows, Cond.instanceMethod yX0_bowAllows, Cond.selects RX0 yX0_bowAllows yX0_bowAllows, Cond.code yX0_bowAllows cX0_bowAllows 4 (some .boolean), Cond.methodLink RX0 51 yX0_swingAtBow, Cond.instanceMethod yX0_swingAtBow, Cond.selects RX0 yX0_swingAtBow yX0_swingAtBow, Cond.code yX0_swingAtBow cX0_swingAtBow 4 (some .int), Cond.methodLink RX0 62 yX0_wayFor, Cond.instanceMethod yX0_wayFor, Cond.selects RX0 yX0_wayFor yX0_wayFor, Cond.code yX0_wayFor cX0_wayFor 4 (some .int)]
def wsX0_reasonOf : List Cond := .code yX0_reasonOf cX0_reasonOf 4 (some .int) :: ((wsX0_reasonOf_r1 ++ wsX0_reasonOf_r2) ++ wsX00 ++ wsX50 ++ wsX70)
def wsX0_takesBow_r1 : List Cond := [Cond.fieldLink RX0 19 "BowedPlate$Choice" "isTaken" "[Z", Cond.methodLink RX0 54 yX0_bowAllows, Cond.instanceMethod yX0_bowAllows, Cond.selects RX0 yX0_bowAllows yX0_bowAllows, Cond.initialized RX0, Cond.code yX0_bowAllows cX0_bowAllows 4 (some .boolean), Cond.fieldLink RX0 27 "BowedPlate$Choice" "now" "LBowedPlate$State;", Cond.methodLink RX0 51 yX0_swingAtBow, Cond.instanceMethod yX0_swingAtBow, Cond.selects RX0 yX0_swingAtBow yX0_swingAtBow, Cond.code yX0_swingAtBow cX0_swingAtBow 4 (some .int), Cond.fieldLink RX0 23 "BowedPlate$Choice" "ways" "LBowedPlate$Ways;", Cond.methodLink RX0 42 yX7_swingAt, Cond.instanceMethod yX7_swingAt, Cond.selects RX7 yX7_swingAt yX7_swingAt, Cond.initialized RX7, Cond.code yX7_swingAt cX7_swingAt 8 (some .int), Cond.fieldLink RX7 9 "BowedPlate$Ways" "lesser" "[I", Cond.fieldLink RX7 15 "BowedPlate$Ways" "greater" "[I", Cond.fieldLink RX7 21 "BowedPlate$Ways" "heights" "[I", Cond.fieldLink RX7 18 "BowedPlate$Ways" "sign" "[I", Cond.methodLink RX7 44 Lib.Math.abs.name, Cond.static Lib.Math.abs.name, Cond.initialized "java/lang/Math"]
def wsX0_takesBow_r2 : List Cond := [Cond.code Lib.Math.abs.name Lib.Math.abs.code 1 (some .int), Cond.static yX8_isWay, Cond.initialized RX8, Cond.code yX8_isWay cX8_isWay 1 (some .boolean), Cond.static yX8_isPlace, Cond.code yX8_isPlace cX8_isPlace 2 (some .boolean)]
def wsX0_takesBow : List Cond := .code yX0_takesBow cX0_takesBow 4 (some .boolean) :: ((wsX0_takesBow_r1 ++ wsX0_takesBow_r2) ++ wsX00 ++ wsX50 ++ wsX70)
def wsX0_findPossible_r1 : List Cond := [Cond.fieldLink RX0 19 "BowedPlate$Choice" "isTaken" "[Z", Cond.fieldLink RX0 15 "BowedPlate$Choice" "possibleWays" "I", Cond.fieldLink RX0 9 "BowedPlate$Choice" "possibleWay" "[I", Cond.methodLink RX0 58 yX0_clampsAllow, Cond.instanceMethod yX0_clampsAllow, Cond.selects RX0 yX0_clampsAllow yX0_clampsAllow, Cond.initialized RX0, Cond.code yX0_clampsAllow cX0_clampsAllow 4 (some .boolean), Cond.fieldLink RX0 27 "BowedPlate$Choice" "now" "LBowedPlate$State;", Cond.fieldLink RX0 23 "BowedPlate$Choice" "ways" "LBowedPlate$Ways;", Cond.methodLink RX0 42 yX7_swingAt, Cond.instanceMethod yX7_swingAt, Cond.selects RX7 yX7_swingAt yX7_swingAt, Cond.initialized RX7, Cond.code yX7_swingAt cX7_swingAt 8 (some .int), Cond.fieldLink RX7 9 "BowedPlate$Ways" "lesser" "[I", Cond.fieldLink RX7 15 "BowedPlate$Ways" "greater" "[I", Cond.fieldLink RX7 21 "BowedPlate$Ways" "heights" "[I", Cond.fieldLink RX7 18 "BowedPlate$Ways" "sign" "[I", Cond.methodLink RX7 44 Lib.Math.abs.name, Cond.static Lib.Math.abs.name, Cond.initialized "java/lang/Math", Cond.code Lib.Math.abs.name Lib.Math.abs.code 1 (some .int), Cond.static yX8_isWay]
def wsX0_findPossible_r2 : List Cond := [Cond.initialized RX8, Cond.code yX8_isWay cX8_isWay 1 (some .boolean), Cond.static yX8_isPlace, Cond.code yX8_isPlace cX8_isPlace 2 (some .boolean), Cond.methodLink RX0 66 yX0_takesBow, Cond.instanceMethod yX0_takesBow, Cond.selects RX0 yX0_takesBow yX0_takesBow, Cond.code yX0_takesBow cX0_takesBow 4 (some .boolean), Cond.methodLink RX0 54 yX0_bowAllows, Cond.instanceMethod yX0_bowAllows, Cond.selects RX0 yX0_bowAllows yX0_bowAllows, Cond.code yX0_bowAllows cX0_bowAllows 4 (some .boolean), Cond.methodLink RX0 51 yX0_swingAtBow, Cond.instanceMethod yX0_swingAtBow, Cond.selects RX0 yX0_swingAtBow yX0_swingAtBow, Cond.code yX0_swingAtBow cX0_swingAtBow 4 (some .int)]
def wsX0_findPossible : List Cond := .code yX0_findPossible cX0_findPossible 2 none :: ((wsX0_findPossible_r1 ++ wsX0_findPossible_r2) ++ wsX00 ++ wsX50 ++ wsX70)
def wsX1_init : List Cond := .code yX1_init cX1_init 3 none :: ([.methodLink RX1 3 objectInit, .instanceMethod objectInit, .code objectInit ⟨#[0xb1]⟩ 1 none, .arrayClass .boolean, .fieldLink RX1 9 "BowedPlate$Figure" "isOpen" "[Z", .arrayClass .int, .fieldLink RX1 15 "BowedPlate$Figure" "reached" "[I", .fieldLink RX1 19 "BowedPlate$Figure" "reaches" "I", .fieldLink RX1 23 "BowedPlate$Figure" "ways" "LBowedPlate$Ways;", .fieldLink RX1 27 "BowedPlate$Figure" "now" "LBowedPlate$State;"] ++ wsX10)
def wsX1_isStill : List Cond := .code yX1_isStill cX1_isStill 4 (some .boolean) :: ([.fieldLink RX1 23 "BowedPlate$Figure" "ways" "LBowedPlate$Ways;", .fieldLink RX1 27 "BowedPlate$Figure" "now" "LBowedPlate$State;", .methodLink RX1 31 yX7_swingAt, .instanceMethod yX7_swingAt, .selects RX7 yX7_swingAt yX7_swingAt, .initialized RX7, .code yX7_swingAt cX7_swingAt 8 (some .int), .fieldLink RX7 9 "BowedPlate$Ways" "lesser" "[I", .fieldLink RX7 15 "BowedPlate$Ways" "greater" "[I", .fieldLink RX7 21 "BowedPlate$Ways" "heights" "[I", .fieldLink RX7 18 "BowedPlate$Ways" "sign" "[I", .methodLink RX7 44 Lib.Math.abs.name, .static Lib.Math.abs.name, .initialized "java/lang/Math", .code Lib.Math.abs.name Lib.Math.abs.code 1 (some .int), .static yX8_isWay, .initialized RX8, .code yX8_isWay cX8_isWay 1 (some .boolean), .static yX8_isPlace, .code yX8_isPlace cX8_isPlace 2 (some .boolean)] ++ wsX10 ++ wsX50 ++ wsX70)
def wsX8_columnOf : List Cond := .code yX8_columnOf cX8_columnOf 1 (some .int) :: ([])
def wsX8_rowOf : List Cond := .code yX8_rowOf cX8_rowOf 1 (some .int) :: ([])
def wsX1_stillPlaces_r1 : List Cond := [Cond.static yX8_columnOf, Cond.initialized RX8, Cond.code yX8_columnOf cX8_columnOf 1 (some .int), Cond.static yX8_rowOf, Cond.code yX8_rowOf cX8_rowOf 1 (some .int), Cond.methodLink RX1 49 yX1_isStill, Cond.instanceMethod yX1_isStill, Cond.selects RX1 yX1_isStill yX1_isStill, Cond.initialized RX1, Cond.code yX1_isStill cX1_isStill 4 (some .boolean), Cond.fieldLink RX1 23 "BowedPlate$Figure" "ways" "LBowedPlate$Ways;", Cond.fieldLink RX1 27 "BowedPlate$Figure" "now" "LBowedPlate$State;", Cond.methodLink RX1 31 yX7_swingAt, Cond.instanceMethod yX7_swingAt, Cond.selects RX7 yX7_swingAt yX7_swingAt, Cond.initialized RX7, Cond.code yX7_swingAt cX7_swingAt 8 (some .int), Cond.fieldLink RX7 9 "BowedPlate$Ways" "lesser" "[I", Cond.fieldLink RX7 15 "BowedPlate$Ways" "greater" "[I", Cond.fieldLink RX7 21 "BowedPlate$Ways" "heights" "[I", Cond.fieldLink RX7 18 "BowedPlate$Ways" "sign" "[I", Cond.methodLink RX7 44 Lib.Math.abs.name, Cond.static Lib.Math.abs.name, Cond.initialized "java/lang/Math"]
def wsX1_stillPlaces_r2 : List Cond := [Cond.code Lib.Math.abs.name Lib.Math.abs.code 1 (some .int), Cond.static yX8_isWay, Cond.code yX8_isWay cX8_isWay 1 (some .boolean), Cond.static yX8_isPlace, Cond.code yX8_isPlace cX8_isPlace 2 (some .boolean)]
def wsX1_stillPlaces : List Cond := .code yX1_stillPlaces cX1_stillPlaces 4 (some .int) :: ((wsX1_stillPlaces_r1 ++ wsX1_stillPlaces_r2) ++ wsX10 ++ wsX50 ++ wsX70)
def wsX1_grainsOnLines_r1 : List Cond := [Cond.fieldLink RX1 27 "BowedPlate$Figure" "now" "LBowedPlate$State;", Cond.static yX8_columnOf, Cond.initialized RX8, Cond.code yX8_columnOf cX8_columnOf 1 (some .int), Cond.static yX8_rowOf, Cond.code yX8_rowOf cX8_rowOf 1 (some .int), Cond.methodLink RX1 49 yX1_isStill, Cond.instanceMethod yX1_isStill, Cond.selects RX1 yX1_isStill yX1_isStill, Cond.initialized RX1, Cond.code yX1_isStill cX1_isStill 4 (some .boolean), Cond.fieldLink RX1 23 "BowedPlate$Figure" "ways" "LBowedPlate$Ways;", Cond.methodLink RX1 31 yX7_swingAt, Cond.instanceMethod yX7_swingAt, Cond.selects RX7 yX7_swingAt yX7_swingAt, Cond.initialized RX7, Cond.code yX7_swingAt cX7_swingAt 8 (some .int), Cond.fieldLink RX7 9 "BowedPlate$Ways" "lesser" "[I", Cond.fieldLink RX7 15 "BowedPlate$Ways" "greater" "[I", Cond.fieldLink RX7 21 "BowedPlate$Ways" "heights" "[I", Cond.fieldLink RX7 18 "BowedPlate$Ways" "sign" "[I", Cond.methodLink RX7 44 Lib.Math.abs.name, Cond.static Lib.Math.abs.name, Cond.initialized "java/lang/Math"]
def wsX1_grainsOnLines_r2 : List Cond := [Cond.code Lib.Math.abs.name Lib.Math.abs.code 1 (some .int), Cond.static yX8_isWay, Cond.code yX8_isWay cX8_isWay 1 (some .boolean), Cond.static yX8_isPlace, Cond.code yX8_isPlace cX8_isPlace 2 (some .boolean)]
def wsX1_grainsOnLines : List Cond := .code yX1_grainsOnLines cX1_grainsOnLines 4 (some .int) :: ((wsX1_grainsOnLines_r1 ++ wsX1_grainsOnLines_r2) ++ wsX10 ++ wsX50 ++ wsX70)
def wsX8_placeOf : List Cond := .code yX8_placeOf cX8_placeOf 2 (some .int) :: ([])
def wsX1_reach : List Cond := .code yX1_reach cX1_reach 3 none :: ([.fieldLink RX1 9 "BowedPlate$Figure" "isOpen" "[Z", .fieldLink RX1 19 "BowedPlate$Figure" "reaches" "I", .fieldLink RX1 15 "BowedPlate$Figure" "reached" "[I", .static yX8_isPlace, .initialized RX8, .code yX8_isPlace cX8_isPlace 2 (some .boolean), .static yX8_placeOf, .code yX8_placeOf cX8_placeOf 2 (some .int)] ++ wsX10)
def wsX1_closeLine : List Cond := .code yX1_closeLine cX1_closeLine 5 none :: ([.fieldLink RX1 19 "BowedPlate$Figure" "reaches" "I", .fieldLink RX1 15 "BowedPlate$Figure" "reached" "[I", .static yX8_columnOf, .initialized RX8, .code yX8_columnOf cX8_columnOf 1 (some .int), .static yX8_rowOf, .code yX8_rowOf cX8_rowOf 1 (some .int), .methodLink RX1 60 yX1_reach, .instanceMethod yX1_reach, .selects RX1 yX1_reach yX1_reach, .initialized RX1, .code yX1_reach cX1_reach 3 none, .fieldLink RX1 9 "BowedPlate$Figure" "isOpen" "[Z", .static yX8_isPlace, .code yX8_isPlace cX8_isPlace 2 (some .boolean), .static yX8_placeOf, .code yX8_placeOf cX8_placeOf 2 (some .int)] ++ wsX10)
def wsX1_lines_r1 : List Cond := [Cond.fieldLink RX1 9 "BowedPlate$Figure" "isOpen" "[Z", Cond.static yX8_columnOf, Cond.initialized RX8, Cond.code yX8_columnOf cX8_columnOf 1 (some .int), Cond.static yX8_rowOf, Cond.code yX8_rowOf cX8_rowOf 1 (some .int), Cond.methodLink RX1 49 yX1_isStill, Cond.instanceMethod yX1_isStill, Cond.selects RX1 yX1_isStill yX1_isStill, Cond.initialized RX1, Cond.code yX1_isStill cX1_isStill 4 (some .boolean), Cond.fieldLink RX1 23 "BowedPlate$Figure" "ways" "LBowedPlate$Ways;", Cond.fieldLink RX1 27 "BowedPlate$Figure" "now" "LBowedPlate$State;", Cond.methodLink RX1 31 yX7_swingAt, Cond.instanceMethod yX7_swingAt, Cond.selects RX7 yX7_swingAt yX7_swingAt, Cond.initialized RX7, Cond.code yX7_swingAt cX7_swingAt 8 (some .int), Cond.fieldLink RX7 9 "BowedPlate$Ways" "lesser" "[I", Cond.fieldLink RX7 15 "BowedPlate$Ways" "greater" "[I", Cond.fieldLink RX7 21 "BowedPlate$Ways" "heights" "[I", Cond.fieldLink RX7 18 "BowedPlate$Ways" "sign" "[I", Cond.methodLink RX7 44 Lib.Math.abs.name, Cond.static Lib.Math.abs.name]
def wsX1_lines_r2 : List Cond := [Cond.initialized "java/lang/Math", Cond.code Lib.Math.abs.name Lib.Math.abs.code 1 (some .int), Cond.static yX8_isWay, Cond.code yX8_isWay cX8_isWay 1 (some .boolean), Cond.static yX8_isPlace, Cond.code yX8_isPlace cX8_isPlace 2 (some .boolean), Cond.methodLink RX1 56 yX1_closeLine, Cond.instanceMethod yX1_closeLine, Cond.selects RX1 yX1_closeLine yX1_closeLine, Cond.code yX1_closeLine cX1_closeLine 5 none, Cond.fieldLink RX1 19 "BowedPlate$Figure" "reaches" "I", Cond.fieldLink RX1 15 "BowedPlate$Figure" "reached" "[I", Cond.methodLink RX1 60 yX1_reach, Cond.instanceMethod yX1_reach, Cond.selects RX1 yX1_reach yX1_reach, Cond.code yX1_reach cX1_reach 3 none, Cond.static yX8_placeOf, Cond.code yX8_placeOf cX8_placeOf 2 (some .int)]
def wsX1_lines : List Cond := .code yX1_lines cX1_lines 4 (some .int) :: ((wsX1_lines_r1 ++ wsX1_lines_r2) ++ wsX10 ++ wsX50 ++ wsX70)
def wsX4_init : List Cond := .code yX4_init cX4_init 2 none :: ([.methodLink RX4 1 objectInit, .instanceMethod objectInit, .code objectInit ⟨#[0xb1]⟩ 1 none, .fieldLink RX4 7 "BowedPlate$Piece" "size" "I", .methodLink RX4 13 Lib.Math.max.name, .static Lib.Math.max.name, .initialized "java/lang/Math", .code Lib.Math.max.name Lib.Math.max.code 2 (some .int), .fieldLink RX4 19 "BowedPlate$Piece" "limit" "I", .arrayClass .int, .fieldLink RX4 22 "BowedPlate$Piece" "sides" "[I", .fieldLink RX4 26 "BowedPlate$Piece" "alongs" "[I", .fieldLink RX4 29 "BowedPlate$Piece" "strokes" "[I"] ++ wsX40)
def wsX5_coverWith : List Cond := .code yX5_coverWith cX5_coverWith 3 none :: ([.fieldLink RX5 9 "BowedPlate$State" "grains" "[I"] ++ wsX50)
def wsX5_init_r1 : List Cond := [Cond.methodLink RX5 3 objectInit, Cond.instanceMethod objectInit, Cond.code objectInit ⟨#[0xb1]⟩ 1 none, Cond.arrayClass .int, Cond.fieldLink RX5 9 "BowedPlate$State" "grains" "[I", Cond.fieldLink RX5 15 "BowedPlate$State" "clampColumns" "[I", Cond.fieldLink RX5 18 "BowedPlate$State" "clampRows" "[I", Cond.fieldLink RX5 21 "BowedPlate$State" "clamps" "I", Cond.fieldLink RX5 25 "BowedPlate$State" "settings" "[I", Cond.classLink RX5 28 RX4, Cond.instantiable RX4 5, Cond.initialized RX4, Cond.fieldLink RX5 33 "BowedPlate$State" "piece" "LBowedPlate$Piece;", Cond.fieldLink RX5 37 "BowedPlate$State" "lastWay" "I", Cond.fieldLink RX5 40 "BowedPlate$State" "strewn" "I", Cond.fieldLink RX5 43 "BowedPlate$State" "swept" "I", Cond.fieldLink RX5 46 "BowedPlate$State" "fallen" "I", Cond.fieldLink RX5 49 "BowedPlate$State" "strokes" "I", Cond.fieldLink RX5 52 "BowedPlate$State" "mutes" "I", Cond.methodLink RX5 61 arraycopyName, Cond.native arraycopyName, Cond.static arraycopyName, Cond.initialized "java/lang/System", Cond.methodLink RX5 30 yX4_init]
def wsX5_init_r2 : List Cond := [Cond.instanceMethod yX4_init, Cond.code yX4_init cX4_init 2 none, Cond.methodLink RX4 1 objectInit, Cond.fieldLink RX4 7 "BowedPlate$Piece" "size" "I", Cond.methodLink RX4 13 Lib.Math.max.name, Cond.static Lib.Math.max.name, Cond.initialized "java/lang/Math", Cond.code Lib.Math.max.name Lib.Math.max.code 2 (some .int), Cond.fieldLink RX4 19 "BowedPlate$Piece" "limit" "I", Cond.fieldLink RX4 22 "BowedPlate$Piece" "sides" "[I", Cond.fieldLink RX4 26 "BowedPlate$Piece" "alongs" "[I", Cond.fieldLink RX4 29 "BowedPlate$Piece" "strokes" "[I", Cond.methodLink RX5 55 yX5_coverWith, Cond.instanceMethod yX5_coverWith, Cond.selects RX5 yX5_coverWith yX5_coverWith, Cond.initialized RX5, Cond.code yX5_coverWith cX5_coverWith 3 none]
def wsX5_init : List Cond := .code yX5_init cX5_init 1 none :: ((wsX5_init_r1 ++ wsX5_init_r2) ++ wsX50 ++ wsX40)
def wsX2_init_r1 : List Cond := [Cond.methodLink RX2 3 objectInit, Cond.instanceMethod objectInit, Cond.code objectInit ⟨#[0xb1]⟩ 1 none, Cond.classLink RX2 9 RX5, Cond.fieldLink RX2 11 "BowedPlate$History" "states" "[LBowedPlate$State;", Cond.fieldLink RX2 17 "BowedPlate$History" "oldest" "I", Cond.fieldLink RX2 21 "BowedPlate$History" "held" "I", Cond.instantiable RX5 12, Cond.initialized RX5, Cond.methodLink RX2 24 yX5_init, Cond.instanceMethod yX5_init, Cond.code yX5_init cX5_init 1 none, Cond.methodLink RX5 3 objectInit, Cond.arrayClass .int, Cond.fieldLink RX5 9 "BowedPlate$State" "grains" "[I", Cond.fieldLink RX5 15 "BowedPlate$State" "clampColumns" "[I", Cond.fieldLink RX5 18 "BowedPlate$State" "clampRows" "[I", Cond.fieldLink RX5 21 "BowedPlate$State" "clamps" "I", Cond.fieldLink RX5 25 "BowedPlate$State" "settings" "[I", Cond.classLink RX5 28 RX4, Cond.instantiable RX4 5, Cond.initialized RX4, Cond.fieldLink RX5 33 "BowedPlate$State" "piece" "LBowedPlate$Piece;", Cond.fieldLink RX5 37 "BowedPlate$State" "lastWay" "I"]
def wsX2_init_r2 : List Cond := [Cond.fieldLink RX5 40 "BowedPlate$State" "strewn" "I", Cond.fieldLink RX5 43 "BowedPlate$State" "swept" "I", Cond.fieldLink RX5 46 "BowedPlate$State" "fallen" "I", Cond.fieldLink RX5 49 "BowedPlate$State" "strokes" "I", Cond.fieldLink RX5 52 "BowedPlate$State" "mutes" "I", Cond.methodLink RX5 61 arraycopyName, Cond.native arraycopyName, Cond.static arraycopyName, Cond.initialized "java/lang/System", Cond.methodLink RX5 30 yX4_init, Cond.instanceMethod yX4_init, Cond.code yX4_init cX4_init 2 none, Cond.methodLink RX4 1 objectInit, Cond.fieldLink RX4 7 "BowedPlate$Piece" "size" "I", Cond.methodLink RX4 13 Lib.Math.max.name, Cond.static Lib.Math.max.name, Cond.initialized "java/lang/Math", Cond.code Lib.Math.max.name Lib.Math.max.code 2 (some .int), Cond.fieldLink RX4 19 "BowedPlate$Piece" "limit" "I", Cond.fieldLink RX4 22 "BowedPlate$Piece" "sides" "[I", Cond.fieldLink RX4 26 "BowedPlate$Piece" "alongs" "[I", Cond.fieldLink RX4 29 "BowedPlate$Piece" "strokes" "[I", Cond.methodLink RX5 55 yX5_coverWith, Cond.instanceMethod yX5_coverWith]
def wsX2_init_r3 : List Cond := [Cond.selects RX5 yX5_coverWith yX5_coverWith, Cond.code yX5_coverWith cX5_coverWith 3 none]
def wsX2_init : List Cond := .code yX2_init cX2_init 2 none :: ((wsX2_init_r1 ++ (wsX2_init_r2 ++ wsX2_init_r3)) ++ wsX20 ++ wsX50 ++ wsX40)
def wsX4_append : List Cond := .code yX4_append cX4_append 4 none :: ([.fieldLink RX4 7 "BowedPlate$Piece" "size" "I", .fieldLink RX4 19 "BowedPlate$Piece" "limit" "I", .fieldLink RX4 22 "BowedPlate$Piece" "sides" "[I", .fieldLink RX4 26 "BowedPlate$Piece" "alongs" "[I", .fieldLink RX4 29 "BowedPlate$Piece" "strokes" "[I"] ++ wsX40)
def wsX4_appendAll : List Cond := .code yX4_appendAll cX4_appendAll 3 none :: ([.fieldLink RX4 7 "BowedPlate$Piece" "size" "I", .fieldLink RX4 22 "BowedPlate$Piece" "sides" "[I", .fieldLink RX4 26 "BowedPlate$Piece" "alongs" "[I", .fieldLink RX4 29 "BowedPlate$Piece" "strokes" "[I", .methodLink RX4 32 yX4_append, .instanceMethod yX4_append, .selects RX4 yX4_append yX4_append, .initialized RX4, .code yX4_append cX4_append 4 none, .fieldLink RX4 19 "BowedPlate$Piece" "limit" "I"] ++ wsX40)
def wsX4_copyFrom : List Cond := .code yX4_copyFrom cX4_copyFrom 2 none :: ([.fieldLink RX4 7 "BowedPlate$Piece" "size" "I", .methodLink RX4 36 yX4_appendAll, .instanceMethod yX4_appendAll, .selects RX4 yX4_appendAll yX4_appendAll, .initialized RX4, .code yX4_appendAll cX4_appendAll 3 none, .fieldLink RX4 22 "BowedPlate$Piece" "sides" "[I", .fieldLink RX4 26 "BowedPlate$Piece" "alongs" "[I", .fieldLink RX4 29 "BowedPlate$Piece" "strokes" "[I", .methodLink RX4 32 yX4_append, .instanceMethod yX4_append, .selects RX4 yX4_append yX4_append, .code yX4_append cX4_append 4 none, .fieldLink RX4 19 "BowedPlate$Piece" "limit" "I"] ++ wsX40)
def wsX5_copyFrom_r1 : List Cond := [Cond.fieldLink RX5 9 "BowedPlate$State" "grains" "[I", Cond.methodLink RX5 61 arraycopyName, Cond.native arraycopyName, Cond.static arraycopyName, Cond.initialized "java/lang/System", Cond.fieldLink RX5 15 "BowedPlate$State" "clampColumns" "[I", Cond.fieldLink RX5 18 "BowedPlate$State" "clampRows" "[I", Cond.fieldLink RX5 21 "BowedPlate$State" "clamps" "I", Cond.fieldLink RX5 25 "BowedPlate$State" "settings" "[I", Cond.fieldLink RX5 33 "BowedPlate$State" "piece" "LBowedPlate$Piece;", Cond.fieldLink RX5 37 "BowedPlate$State" "lastWay" "I", Cond.fieldLink RX5 40 "BowedPlate$State" "strewn" "I", Cond.fieldLink RX5 43 "BowedPlate$State" "swept" "I", Cond.fieldLink RX5 46 "BowedPlate$State" "fallen" "I", Cond.fieldLink RX5 49 "BowedPlate$State" "strokes" "I", Cond.fieldLink RX5 52 "BowedPlate$State" "mutes" "I", Cond.methodLink RX5 67 yX4_copyFrom, Cond.instanceMethod yX4_copyFrom, Cond.selects RX4 yX4_copyFrom yX4_copyFrom, Cond.initialized RX4, Cond.code yX4_copyFrom cX4_copyFrom 2 none, Cond.fieldLink RX4 7 "BowedPlate$Piece" "size" "I", Cond.methodLink RX4 36 yX4_appendAll, Cond.instanceMethod yX4_appendAll]
def wsX5_copyFrom_r2 : List Cond := [Cond.selects RX4 yX4_appendAll yX4_appendAll, Cond.code yX4_appendAll cX4_appendAll 3 none, Cond.fieldLink RX4 22 "BowedPlate$Piece" "sides" "[I", Cond.fieldLink RX4 26 "BowedPlate$Piece" "alongs" "[I", Cond.fieldLink RX4 29 "BowedPlate$Piece" "strokes" "[I", Cond.methodLink RX4 32 yX4_append, Cond.instanceMethod yX4_append, Cond.selects RX4 yX4_append yX4_append, Cond.code yX4_append cX4_append 4 none, Cond.fieldLink RX4 19 "BowedPlate$Piece" "limit" "I"]
def wsX5_copyFrom : List Cond := .code yX5_copyFrom cX5_copyFrom 2 none :: ((wsX5_copyFrom_r1 ++ wsX5_copyFrom_r2) ++ wsX50 ++ wsX40)
def wsX2_record_r1 : List Cond := [Cond.fieldLink RX2 21 "BowedPlate$History" "held" "I", Cond.fieldLink RX2 17 "BowedPlate$History" "oldest" "I", Cond.fieldLink RX2 11 "BowedPlate$History" "states" "[LBowedPlate$State;", Cond.methodLink RX2 25 yX5_copyFrom, Cond.instanceMethod yX5_copyFrom, Cond.selects RX5 yX5_copyFrom yX5_copyFrom, Cond.initialized RX5, Cond.code yX5_copyFrom cX5_copyFrom 2 none, Cond.fieldLink RX5 9 "BowedPlate$State" "grains" "[I", Cond.methodLink RX5 61 arraycopyName, Cond.native arraycopyName, Cond.static arraycopyName, Cond.initialized "java/lang/System", Cond.fieldLink RX5 15 "BowedPlate$State" "clampColumns" "[I", Cond.fieldLink RX5 18 "BowedPlate$State" "clampRows" "[I", Cond.fieldLink RX5 21 "BowedPlate$State" "clamps" "I", Cond.fieldLink RX5 25 "BowedPlate$State" "settings" "[I", Cond.fieldLink RX5 33 "BowedPlate$State" "piece" "LBowedPlate$Piece;", Cond.fieldLink RX5 37 "BowedPlate$State" "lastWay" "I", Cond.fieldLink RX5 40 "BowedPlate$State" "strewn" "I", Cond.fieldLink RX5 43 "BowedPlate$State" "swept" "I", Cond.fieldLink RX5 46 "BowedPlate$State" "fallen" "I", Cond.fieldLink RX5 49 "BowedPlate$State" "strokes" "I", Cond.fieldLink RX5 52 "BowedPlate$State" "mutes" "I"]
def wsX2_record_r2 : List Cond := [Cond.methodLink RX5 67 yX4_copyFrom, Cond.instanceMethod yX4_copyFrom, Cond.selects RX4 yX4_copyFrom yX4_copyFrom, Cond.initialized RX4, Cond.code yX4_copyFrom cX4_copyFrom 2 none, Cond.fieldLink RX4 7 "BowedPlate$Piece" "size" "I", Cond.methodLink RX4 36 yX4_appendAll, Cond.instanceMethod yX4_appendAll, Cond.selects RX4 yX4_appendAll yX4_appendAll, Cond.code yX4_appendAll cX4_appendAll 3 none, Cond.fieldLink RX4 22 "BowedPlate$Piece" "sides" "[I", Cond.fieldLink RX4 26 "BowedPlate$Piece" "alongs" "[I", Cond.fieldLink RX4 29 "BowedPlate$Piece" "strokes" "[I", Cond.methodLink RX4 32 yX4_append, Cond.instanceMethod yX4_append, Cond.selects RX4 yX4_append yX4_append, Cond.code yX4_append cX4_append 4 none, Cond.fieldLink RX4 19 "BowedPlate$Piece" "limit" "I"]
def wsX2_record : List Cond := .code yX2_record cX2_record 3 none :: ((wsX2_record_r1 ++ wsX2_record_r2) ++ wsX20 ++ wsX50 ++ wsX40)
def wsX2_takeLatest_r1 : List Cond := [Cond.fieldLink RX2 21 "BowedPlate$History" "held" "I", Cond.fieldLink RX2 11 "BowedPlate$History" "states" "[LBowedPlate$State;", Cond.fieldLink RX2 17 "BowedPlate$History" "oldest" "I", Cond.methodLink RX2 25 yX5_copyFrom, Cond.instanceMethod yX5_copyFrom, Cond.selects RX5 yX5_copyFrom yX5_copyFrom, Cond.initialized RX5, Cond.code yX5_copyFrom cX5_copyFrom 2 none, Cond.fieldLink RX5 9 "BowedPlate$State" "grains" "[I", Cond.methodLink RX5 61 arraycopyName, Cond.native arraycopyName, Cond.static arraycopyName, Cond.initialized "java/lang/System", Cond.fieldLink RX5 15 "BowedPlate$State" "clampColumns" "[I", Cond.fieldLink RX5 18 "BowedPlate$State" "clampRows" "[I", Cond.fieldLink RX5 21 "BowedPlate$State" "clamps" "I", Cond.fieldLink RX5 25 "BowedPlate$State" "settings" "[I", Cond.fieldLink RX5 33 "BowedPlate$State" "piece" "LBowedPlate$Piece;", Cond.fieldLink RX5 37 "BowedPlate$State" "lastWay" "I", Cond.fieldLink RX5 40 "BowedPlate$State" "strewn" "I", Cond.fieldLink RX5 43 "BowedPlate$State" "swept" "I", Cond.fieldLink RX5 46 "BowedPlate$State" "fallen" "I", Cond.fieldLink RX5 49 "BowedPlate$State" "strokes" "I", Cond.fieldLink RX5 52 "BowedPlate$State" "mutes" "I"]
def wsX2_takeLatest_r2 : List Cond := [Cond.methodLink RX5 67 yX4_copyFrom, Cond.instanceMethod yX4_copyFrom, Cond.selects RX4 yX4_copyFrom yX4_copyFrom, Cond.initialized RX4, Cond.code yX4_copyFrom cX4_copyFrom 2 none, Cond.fieldLink RX4 7 "BowedPlate$Piece" "size" "I", Cond.methodLink RX4 36 yX4_appendAll, Cond.instanceMethod yX4_appendAll, Cond.selects RX4 yX4_appendAll yX4_appendAll, Cond.code yX4_appendAll cX4_appendAll 3 none, Cond.fieldLink RX4 22 "BowedPlate$Piece" "sides" "[I", Cond.fieldLink RX4 26 "BowedPlate$Piece" "alongs" "[I", Cond.fieldLink RX4 29 "BowedPlate$Piece" "strokes" "[I", Cond.methodLink RX4 32 yX4_append, Cond.instanceMethod yX4_append, Cond.selects RX4 yX4_append yX4_append, Cond.code yX4_append cX4_append 4 none, Cond.fieldLink RX4 19 "BowedPlate$Piece" "limit" "I"]
def wsX2_takeLatest : List Cond := .code yX2_takeLatest cX2_takeLatest 3 none :: ((wsX2_takeLatest_r1 ++ wsX2_takeLatest_r2) ++ wsX20 ++ wsX50 ++ wsX40)
def wsX3_init : List Cond := .code yX3_init cX3_init 3 none :: ([.methodLink RX3 3 objectInit, .instanceMethod objectInit, .code objectInit ⟨#[0xb1]⟩ 1 none, .arrayClass .int, .fieldLink RX3 9 "BowedPlate$Mover" "swings" "[I", .fieldLink RX3 15 "BowedPlate$Mover" "targets" "[I", .fieldLink RX3 18 "BowedPlate$Mover" "arrivals" "[I", .fieldLink RX3 21 "BowedPlate$Mover" "ways" "LBowedPlate$Ways;", .fieldLink RX3 25 "BowedPlate$Mover" "now" "LBowedPlate$State;"] ++ wsX30)
def wsX3_calmerOf : List Cond := .code yX3_calmerOf cX3_calmerOf 4 (some .int) :: ([.fieldLink RX3 9 "BowedPlate$Mover" "swings" "[I", .static yX8_isPlace, .initialized RX8, .code yX8_isPlace cX8_isPlace 2 (some .boolean), .static yX8_placeOf, .code yX8_placeOf cX8_placeOf 2 (some .int)] ++ wsX30)
def wsX3_targetOf : List Cond := .code yX3_targetOf cX3_targetOf 4 (some .int) :: ([.static yX8_placeOf, .initialized RX8, .code yX8_placeOf cX8_placeOf 2 (some .int), .methodLink RX3 52 yX3_calmerOf, .instanceMethod yX3_calmerOf, .selects RX3 yX3_calmerOf yX3_calmerOf, .initialized RX3, .code yX3_calmerOf cX3_calmerOf 4 (some .int), .fieldLink RX3 9 "BowedPlate$Mover" "swings" "[I", .static yX8_isPlace, .code yX8_isPlace cX8_isPlace 2 (some .boolean)] ++ wsX30)
def wsX3_isAtEdge : List Cond := .code yX3_isAtEdge cX3_isAtEdge 3 (some .boolean) :: ([.static yX8_columnOf, .initialized RX8, .code yX8_columnOf cX8_columnOf 1 (some .int), .static yX8_rowOf, .code yX8_rowOf cX8_rowOf 1 (some .int)])
def wsX3_shake : List Cond := .code yX3_shake cX3_shake 3 none :: ([.fieldLink RX3 25 "BowedPlate$Mover" "now" "LBowedPlate$State;", .fieldLink RX3 9 "BowedPlate$Mover" "swings" "[I", .fieldLink RX3 18 "BowedPlate$Mover" "arrivals" "[I", .fieldLink RX3 15 "BowedPlate$Mover" "targets" "[I", .methodLink RX3 71 yX3_isAtEdge, .static yX3_isAtEdge, .initialized RX3, .code yX3_isAtEdge cX3_isAtEdge 3 (some .boolean), .static yX8_columnOf, .initialized RX8, .code yX8_columnOf cX8_columnOf 1 (some .int), .static yX8_rowOf, .code yX8_rowOf cX8_rowOf 1 (some .int)] ++ wsX30 ++ wsX50)
def wsX3_strokeOnce : List Cond := .code yX3_strokeOnce cX3_strokeOnce 2 none :: ([.fieldLink RX3 18 "BowedPlate$Mover" "arrivals" "[I", .fieldLink RX3 9 "BowedPlate$Mover" "swings" "[I", .fieldLink RX3 25 "BowedPlate$Mover" "now" "LBowedPlate$State;", .methodLink RX3 67 yX3_shake, .instanceMethod yX3_shake, .selects RX3 yX3_shake yX3_shake, .initialized RX3, .code yX3_shake cX3_shake 3 none, .fieldLink RX3 15 "BowedPlate$Mover" "targets" "[I", .methodLink RX3 71 yX3_isAtEdge, .static yX3_isAtEdge, .code yX3_isAtEdge cX3_isAtEdge 3 (some .boolean), .static yX8_columnOf, .initialized RX8, .code yX8_columnOf cX8_columnOf 1 (some .int), .static yX8_rowOf, .code yX8_rowOf cX8_rowOf 1 (some .int)] ++ wsX30 ++ wsX50)
def wsX3_stroke_r1 : List Cond := [Cond.fieldLink RX3 9 "BowedPlate$Mover" "swings" "[I", Cond.fieldLink RX3 21 "BowedPlate$Mover" "ways" "LBowedPlate$Ways;", Cond.fieldLink RX3 15 "BowedPlate$Mover" "targets" "[I", Cond.static yX8_columnOf, Cond.initialized RX8, Cond.code yX8_columnOf cX8_columnOf 1 (some .int), Cond.static yX8_rowOf, Cond.code yX8_rowOf cX8_rowOf 1 (some .int), Cond.methodLink RX3 36 yX7_swingAt, Cond.instanceMethod yX7_swingAt, Cond.selects RX7 yX7_swingAt yX7_swingAt, Cond.initialized RX7, Cond.code yX7_swingAt cX7_swingAt 8 (some .int), Cond.fieldLink RX7 9 "BowedPlate$Ways" "lesser" "[I", Cond.fieldLink RX7 15 "BowedPlate$Ways" "greater" "[I", Cond.fieldLink RX7 21 "BowedPlate$Ways" "heights" "[I", Cond.fieldLink RX7 18 "BowedPlate$Ways" "sign" "[I", Cond.methodLink RX7 44 Lib.Math.abs.name, Cond.static Lib.Math.abs.name, Cond.initialized "java/lang/Math", Cond.code Lib.Math.abs.name Lib.Math.abs.code 1 (some .int), Cond.static yX8_isWay, Cond.code yX8_isWay cX8_isWay 1 (some .boolean), Cond.static yX8_isPlace]
def wsX3_stroke_r2 : List Cond := [Cond.code yX8_isPlace cX8_isPlace 2 (some .boolean), Cond.methodLink RX3 42 yX3_targetOf, Cond.instanceMethod yX3_targetOf, Cond.selects RX3 yX3_targetOf yX3_targetOf, Cond.initialized RX3, Cond.code yX3_targetOf cX3_targetOf 4 (some .int), Cond.static yX8_placeOf, Cond.code yX8_placeOf cX8_placeOf 2 (some .int), Cond.methodLink RX3 52 yX3_calmerOf, Cond.instanceMethod yX3_calmerOf, Cond.selects RX3 yX3_calmerOf yX3_calmerOf, Cond.code yX3_calmerOf cX3_calmerOf 4 (some .int), Cond.methodLink RX3 46 yX3_strokeOnce, Cond.instanceMethod yX3_strokeOnce, Cond.selects RX3 yX3_strokeOnce yX3_strokeOnce, Cond.code yX3_strokeOnce cX3_strokeOnce 2 none, Cond.fieldLink RX3 18 "BowedPlate$Mover" "arrivals" "[I", Cond.fieldLink RX3 25 "BowedPlate$Mover" "now" "LBowedPlate$State;", Cond.methodLink RX3 67 yX3_shake, Cond.instanceMethod yX3_shake, Cond.selects RX3 yX3_shake yX3_shake, Cond.code yX3_shake cX3_shake 3 none, Cond.methodLink RX3 71 yX3_isAtEdge, Cond.static yX3_isAtEdge]
def wsX3_stroke_r3 : List Cond := [Cond.code yX3_isAtEdge cX3_isAtEdge 3 (some .boolean)]
def wsX3_stroke : List Cond := .code yX3_stroke cX3_stroke 4 none :: ((wsX3_stroke_r1 ++ (wsX3_stroke_r2 ++ wsX3_stroke_r3)) ++ wsX30 ++ wsX70 ++ wsX50)
def wsX4_dropFirst : List Cond := .code yX4_dropFirst cX4_dropFirst 4 none :: ([.fieldLink RX4 7 "BowedPlate$Piece" "size" "I", .methodLink RX4 13 Lib.Math.max.name, .static Lib.Math.max.name, .initialized "java/lang/Math", .code Lib.Math.max.name Lib.Math.max.code 2 (some .int), .fieldLink RX4 22 "BowedPlate$Piece" "sides" "[I", .fieldLink RX4 26 "BowedPlate$Piece" "alongs" "[I", .fieldLink RX4 29 "BowedPlate$Piece" "strokes" "[I", .methodLink RX4 32 yX4_append, .instanceMethod yX4_append, .selects RX4 yX4_append yX4_append, .initialized RX4, .code yX4_append cX4_append 4 none, .fieldLink RX4 19 "BowedPlate$Piece" "limit" "I"] ++ wsX40)
def wsX4_sizeAt : List Cond := .code yX4_sizeAt cX4_sizeAt 4 (some .int) :: ([.fieldLink RX4 7 "BowedPlate$Piece" "size" "I", .fieldLink RX4 22 "BowedPlate$Piece" "sides" "[I"] ++ wsX40)
def wsX4_dropSide : List Cond := .code yX4_dropSide cX4_dropSide 4 (some .int) :: ([.fieldLink RX4 7 "BowedPlate$Piece" "size" "I", .fieldLink RX4 22 "BowedPlate$Piece" "sides" "[I", .fieldLink RX4 26 "BowedPlate$Piece" "alongs" "[I", .fieldLink RX4 29 "BowedPlate$Piece" "strokes" "[I", .methodLink RX4 32 yX4_append, .instanceMethod yX4_append, .selects RX4 yX4_append yX4_append, .initialized RX4, .code yX4_append cX4_append 4 none, .fieldLink RX4 19 "BowedPlate$Piece" "limit" "I"] ++ wsX40)
def wsX5_allGrains : List Cond := .code yX5_allGrains cX5_allGrains 3 (some .int) :: ([.fieldLink RX5 9 "BowedPlate$State" "grains" "[I"] ++ wsX50)
def wsX5_mostGrains : List Cond := .code yX5_mostGrains cX5_mostGrains 3 (some .int) :: ([.fieldLink RX5 9 "BowedPlate$State" "grains" "[I", .methodLink RX5 71 Lib.Math.max.name, .static Lib.Math.max.name, .initialized "java/lang/Math", .code Lib.Math.max.name Lib.Math.max.code 2 (some .int)] ++ wsX50)
def wsX5_clampOn : List Cond := .code yX5_clampOn cX5_clampOn 4 (some .int) :: ([.fieldLink RX5 21 "BowedPlate$State" "clamps" "I", .fieldLink RX5 15 "BowedPlate$State" "clampColumns" "[I", .fieldLink RX5 18 "BowedPlate$State" "clampRows" "[I"] ++ wsX50)
def wsX5_dropClamp : List Cond := .code yX5_dropClamp cX5_dropClamp 3 none :: ([.fieldLink RX5 21 "BowedPlate$State" "clamps" "I", .fieldLink RX5 15 "BowedPlate$State" "clampColumns" "[I", .fieldLink RX5 18 "BowedPlate$State" "clampRows" "[I"] ++ wsX50)
def wsX6_init_r1 : List Cond := [Cond.methodLink RX6 3 objectInit, Cond.instanceMethod objectInit, Cond.code objectInit ⟨#[0xb1]⟩ 1 none, Cond.arrayClass .char, Cond.fieldLink RX6 9 "BowedPlate$Text" "characters" "[C", Cond.fieldLink RX6 15 "BowedPlate$Text" "length" "I", Cond.classLink RX6 19 RX4, Cond.instantiable RX4 5, Cond.initialized RX4, Cond.fieldLink RX6 24 "BowedPlate$Text" "piece" "LBowedPlate$Piece;", Cond.fieldLink RX6 28 "BowedPlate$Text" "cursor" "I", Cond.methodLink RX6 21 yX4_init, Cond.instanceMethod yX4_init, Cond.code yX4_init cX4_init 2 none, Cond.methodLink RX4 1 objectInit, Cond.fieldLink RX4 7 "BowedPlate$Piece" "size" "I", Cond.methodLink RX4 13 Lib.Math.max.name, Cond.static Lib.Math.max.name, Cond.initialized "java/lang/Math", Cond.code Lib.Math.max.name Lib.Math.max.code 2 (some .int), Cond.fieldLink RX4 19 "BowedPlate$Piece" "limit" "I", Cond.arrayClass .int, Cond.fieldLink RX4 22 "BowedPlate$Piece" "sides" "[I", Cond.fieldLink RX4 26 "BowedPlate$Piece" "alongs" "[I"]
def wsX6_init_r2 : List Cond := [Cond.fieldLink RX4 29 "BowedPlate$Piece" "strokes" "[I"]
def wsX6_init : List Cond := .code yX6_init cX6_init 1 none :: ((wsX6_init_r1 ++ wsX6_init_r2) ++ wsX60 ++ wsX40)
def wsX6_append : List Cond := .code yX6_append cX6_append 2 none :: ([.fieldLink RX6 15 "BowedPlate$Text" "length" "I", .fieldLink RX6 9 "BowedPlate$Text" "characters" "[C"] ++ wsX60)
def wsX6_next : List Cond := .code yX6_next cX6_next 2 (some .int) :: ([.fieldLink RX6 28 "BowedPlate$Text" "cursor" "I", .fieldLink RX6 15 "BowedPlate$Text" "length" "I", .fieldLink RX6 9 "BowedPlate$Text" "characters" "[C"] ++ wsX60)
def wsX6_sideOf : List Cond := .code yX6_sideOf cX6_sideOf 1 (some .int) :: ([])
def wsX6_digitOf : List Cond := .code yX6_digitOf cX6_digitOf 1 (some .int) :: ([])
def wsX6_readNumber : List Cond := .code yX6_readNumber cX6_readNumber 6 (some .int) :: ([.fieldLink RX6 28 "BowedPlate$Text" "cursor" "I", .methodLink RX6 38 yX6_next, .instanceMethod yX6_next, .selects RX6 yX6_next yX6_next, .initialized RX6, .code yX6_next cX6_next 2 (some .int), .fieldLink RX6 15 "BowedPlate$Text" "length" "I", .fieldLink RX6 9 "BowedPlate$Text" "characters" "[C", .methodLink RX6 54 yX6_digitOf, .static yX6_digitOf, .code yX6_digitOf cX6_digitOf 1 (some .int)] ++ wsX60)
def wsX6_readBowing_r1 : List Cond := [Cond.fieldLink RX6 28 "BowedPlate$Text" "cursor" "I", Cond.fieldLink RX6 24 "BowedPlate$Text" "piece" "LBowedPlate$Piece;", Cond.methodLink RX6 38 yX6_next, Cond.instanceMethod yX6_next, Cond.selects RX6 yX6_next yX6_next, Cond.initialized RX6, Cond.code yX6_next cX6_next 2 (some .int), Cond.fieldLink RX6 15 "BowedPlate$Text" "length" "I", Cond.fieldLink RX6 9 "BowedPlate$Text" "characters" "[C", Cond.methodLink RX6 42 yX6_sideOf, Cond.static yX6_sideOf, Cond.code yX6_sideOf cX6_sideOf 1 (some .int), Cond.methodLink RX6 46 yX6_readNumber, Cond.instanceMethod yX6_readNumber, Cond.selects RX6 yX6_readNumber yX6_readNumber, Cond.code yX6_readNumber cX6_readNumber 6 (some .int), Cond.methodLink RX6 54 yX6_digitOf, Cond.static yX6_digitOf, Cond.code yX6_digitOf cX6_digitOf 1 (some .int), Cond.methodLink RX6 50 yX4_append, Cond.instanceMethod yX4_append, Cond.selects RX4 yX4_append yX4_append, Cond.initialized RX4, Cond.code yX4_append cX4_append 4 none]
def wsX6_readBowing_r2 : List Cond := [Cond.fieldLink RX4 7 "BowedPlate$Piece" "size" "I", Cond.fieldLink RX4 19 "BowedPlate$Piece" "limit" "I", Cond.fieldLink RX4 22 "BowedPlate$Piece" "sides" "[I", Cond.fieldLink RX4 26 "BowedPlate$Piece" "alongs" "[I", Cond.fieldLink RX4 29 "BowedPlate$Piece" "strokes" "[I"]
def wsX6_readBowing : List Cond := .code yX6_readBowing cX6_readBowing 4 (some .boolean) :: ((wsX6_readBowing_r1 ++ wsX6_readBowing_r2) ++ wsX60 ++ wsX40)
def wsX6_read_r1 : List Cond := [Cond.fieldLink RX6 28 "BowedPlate$Text" "cursor" "I", Cond.fieldLink RX6 24 "BowedPlate$Text" "piece" "LBowedPlate$Piece;", Cond.methodLink RX6 34 yX6_readBowing, Cond.instanceMethod yX6_readBowing, Cond.selects RX6 yX6_readBowing yX6_readBowing, Cond.initialized RX6, Cond.code yX6_readBowing cX6_readBowing 4 (some .boolean), Cond.methodLink RX6 38 yX6_next, Cond.instanceMethod yX6_next, Cond.selects RX6 yX6_next yX6_next, Cond.code yX6_next cX6_next 2 (some .int), Cond.fieldLink RX6 15 "BowedPlate$Text" "length" "I", Cond.fieldLink RX6 9 "BowedPlate$Text" "characters" "[C", Cond.methodLink RX6 42 yX6_sideOf, Cond.static yX6_sideOf, Cond.code yX6_sideOf cX6_sideOf 1 (some .int), Cond.methodLink RX6 46 yX6_readNumber, Cond.instanceMethod yX6_readNumber, Cond.selects RX6 yX6_readNumber yX6_readNumber, Cond.code yX6_readNumber cX6_readNumber 6 (some .int), Cond.methodLink RX6 54 yX6_digitOf, Cond.static yX6_digitOf, Cond.code yX6_digitOf cX6_digitOf 1 (some .int), Cond.methodLink RX6 50 yX4_append]
def wsX6_read_r2 : List Cond := [Cond.instanceMethod yX4_append, Cond.selects RX4 yX4_append yX4_append, Cond.initialized RX4, Cond.code yX4_append cX4_append 4 none, Cond.fieldLink RX4 7 "BowedPlate$Piece" "size" "I", Cond.fieldLink RX4 19 "BowedPlate$Piece" "limit" "I", Cond.fieldLink RX4 22 "BowedPlate$Piece" "sides" "[I", Cond.fieldLink RX4 26 "BowedPlate$Piece" "alongs" "[I", Cond.fieldLink RX4 29 "BowedPlate$Piece" "strokes" "[I"]
def wsX6_read : List Cond := .code yX6_read cX6_read 2 (some .boolean) :: ((wsX6_read_r1 ++ wsX6_read_r2) ++ wsX60 ++ wsX40)
def wsX6_fault : List Cond := .code yX6_fault cX6_fault 1 (some .int) :: ([.fieldLink RX6 28 "BowedPlate$Text" "cursor" "I"] ++ wsX60)
def wsX7_waveHeight : List Cond := .code yX7_waveHeight cX7_waveHeight 3 (some .int) :: ([])
def wsX7_listWaysOf : List Cond := .code yX7_listWaysOf cX7_listWaysOf 5 none :: ([.fieldLink RX7 24 "BowedPlate$Ways" "listed" "I", .fieldLink RX7 9 "BowedPlate$Ways" "lesser" "[I", .fieldLink RX7 15 "BowedPlate$Ways" "greater" "[I", .fieldLink RX7 18 "BowedPlate$Ways" "sign" "[I"] ++ wsX70)
def wsX7_init : List Cond := .code yX7_init cX7_init 3 none :: ([.methodLink RX7 3 objectInit, .instanceMethod objectInit, .code objectInit ⟨#[0xb1]⟩ 1 none, .arrayClass .int, .fieldLink RX7 9 "BowedPlate$Ways" "lesser" "[I", .fieldLink RX7 15 "BowedPlate$Ways" "greater" "[I", .fieldLink RX7 18 "BowedPlate$Ways" "sign" "[I", .fieldLink RX7 21 "BowedPlate$Ways" "heights" "[I", .fieldLink RX7 24 "BowedPlate$Ways" "listed" "I", .methodLink RX7 28 yX7_waveHeight, .static yX7_waveHeight, .initialized RX7, .code yX7_waveHeight cX7_waveHeight 3 (some .int), .methodLink RX7 32 yX7_listWaysOf, .instanceMethod yX7_listWaysOf, .selects RX7 yX7_listWaysOf yX7_listWaysOf, .code yX7_listWaysOf cX7_listWaysOf 5 none] ++ wsX70)
def wsX7_noteOf : List Cond := .code yX7_noteOf cX7_noteOf 2 (some .int) :: ([.fieldLink RX7 9 "BowedPlate$Ways" "lesser" "[I", .fieldLink RX7 15 "BowedPlate$Ways" "greater" "[I", .fieldLink RX7 18 "BowedPlate$Ways" "sign" "[I", .static yX8_isWay, .initialized RX8, .code yX8_isWay cX8_isWay 1 (some .boolean)] ++ wsX70)
def wsX8_init_r1 : List Cond := [Cond.methodLink RX8 3 objectInit, Cond.instanceMethod objectInit, Cond.code objectInit ⟨#[0xb1]⟩ 1 none, Cond.classLink RX8 9 RX7, Cond.instantiable RX7 5, Cond.initialized RX7, Cond.fieldLink RX8 12 "BowedPlate" "ways" "LBowedPlate$Ways;", Cond.classLink RX8 16 RX5, Cond.instantiable RX5 12, Cond.initialized RX5, Cond.fieldLink RX8 19 "BowedPlate" "now" "LBowedPlate$State;", Cond.classLink RX8 23 RX0, Cond.instantiable RX0 5, Cond.initialized RX0, Cond.fieldLink RX8 28 "BowedPlate" "choice" "LBowedPlate$Choice;", Cond.classLink RX8 32 RX1, Cond.instantiable RX1 5, Cond.initialized RX1, Cond.fieldLink RX8 35 "BowedPlate" "figure" "LBowedPlate$Figure;", Cond.classLink RX8 39 RX3, Cond.instantiable RX3 5, Cond.initialized RX3, Cond.fieldLink RX8 42 "BowedPlate" "mover" "LBowedPlate$Mover;", Cond.classLink RX8 46 RX6]
def wsX8_init_r2 : List Cond := [Cond.instantiable RX6 4, Cond.initialized RX6, Cond.fieldLink RX8 49 "BowedPlate" "text" "LBowedPlate$Text;", Cond.classLink RX8 53 RX2, Cond.instantiable RX2 3, Cond.initialized RX2, Cond.fieldLink RX8 56 "BowedPlate" "history" "LBowedPlate$History;", Cond.fieldLink RX8 60 "BowedPlate" "snapshot" "LBowedPlate$State;", Cond.fieldLink RX8 63 "BowedPlate" "hasSnapshot" "Z", Cond.methodLink RX8 11 yX7_init, Cond.instanceMethod yX7_init, Cond.code yX7_init cX7_init 3 none, Cond.methodLink RX7 3 objectInit, Cond.arrayClass .int, Cond.fieldLink RX7 9 "BowedPlate$Ways" "lesser" "[I", Cond.fieldLink RX7 15 "BowedPlate$Ways" "greater" "[I", Cond.fieldLink RX7 18 "BowedPlate$Ways" "sign" "[I", Cond.fieldLink RX7 21 "BowedPlate$Ways" "heights" "[I", Cond.fieldLink RX7 24 "BowedPlate$Ways" "listed" "I", Cond.methodLink RX7 28 yX7_waveHeight, Cond.static yX7_waveHeight, Cond.code yX7_waveHeight cX7_waveHeight 3 (some .int), Cond.methodLink RX7 32 yX7_listWaysOf, Cond.instanceMethod yX7_listWaysOf]
def wsX8_init_r3 : List Cond := [Cond.selects RX7 yX7_listWaysOf yX7_listWaysOf, Cond.code yX7_listWaysOf cX7_listWaysOf 5 none, Cond.methodLink RX8 18 yX5_init, Cond.instanceMethod yX5_init, Cond.code yX5_init cX5_init 1 none, Cond.methodLink RX5 3 objectInit, Cond.fieldLink RX5 9 "BowedPlate$State" "grains" "[I", Cond.fieldLink RX5 15 "BowedPlate$State" "clampColumns" "[I", Cond.fieldLink RX5 18 "BowedPlate$State" "clampRows" "[I", Cond.fieldLink RX5 21 "BowedPlate$State" "clamps" "I", Cond.fieldLink RX5 25 "BowedPlate$State" "settings" "[I", Cond.classLink RX5 28 RX4, Cond.instantiable RX4 5, Cond.initialized RX4, Cond.fieldLink RX5 33 "BowedPlate$State" "piece" "LBowedPlate$Piece;", Cond.fieldLink RX5 37 "BowedPlate$State" "lastWay" "I", Cond.fieldLink RX5 40 "BowedPlate$State" "strewn" "I", Cond.fieldLink RX5 43 "BowedPlate$State" "swept" "I", Cond.fieldLink RX5 46 "BowedPlate$State" "fallen" "I", Cond.fieldLink RX5 49 "BowedPlate$State" "strokes" "I", Cond.fieldLink RX5 52 "BowedPlate$State" "mutes" "I", Cond.methodLink RX5 61 arraycopyName, Cond.native arraycopyName, Cond.static arraycopyName]
def wsX8_init_r4 : List Cond := [Cond.initialized "java/lang/System", Cond.methodLink RX5 30 yX4_init, Cond.instanceMethod yX4_init, Cond.code yX4_init cX4_init 2 none, Cond.methodLink RX4 1 objectInit, Cond.fieldLink RX4 7 "BowedPlate$Piece" "size" "I", Cond.methodLink RX4 13 Lib.Math.max.name, Cond.static Lib.Math.max.name, Cond.initialized "java/lang/Math", Cond.code Lib.Math.max.name Lib.Math.max.code 2 (some .int), Cond.fieldLink RX4 19 "BowedPlate$Piece" "limit" "I", Cond.fieldLink RX4 22 "BowedPlate$Piece" "sides" "[I", Cond.fieldLink RX4 26 "BowedPlate$Piece" "alongs" "[I", Cond.fieldLink RX4 29 "BowedPlate$Piece" "strokes" "[I", Cond.methodLink RX5 55 yX5_coverWith, Cond.instanceMethod yX5_coverWith, Cond.selects RX5 yX5_coverWith yX5_coverWith, Cond.code yX5_coverWith cX5_coverWith 3 none, Cond.methodLink RX8 25 yX0_init, Cond.instanceMethod yX0_init, Cond.code yX0_init cX0_init 3 none, Cond.methodLink RX0 3 objectInit, Cond.fieldLink RX0 9 "BowedPlate$Choice" "possibleWay" "[I", Cond.fieldLink RX0 15 "BowedPlate$Choice" "possibleWays" "I"]
def wsX8_init_r5 : List Cond := [Cond.arrayClass .boolean, Cond.fieldLink RX0 19 "BowedPlate$Choice" "isTaken" "[Z", Cond.fieldLink RX0 23 "BowedPlate$Choice" "ways" "LBowedPlate$Ways;", Cond.fieldLink RX0 27 "BowedPlate$Choice" "now" "LBowedPlate$State;", Cond.methodLink RX8 34 yX1_init, Cond.instanceMethod yX1_init, Cond.code yX1_init cX1_init 3 none, Cond.methodLink RX1 3 objectInit, Cond.fieldLink RX1 9 "BowedPlate$Figure" "isOpen" "[Z", Cond.fieldLink RX1 15 "BowedPlate$Figure" "reached" "[I", Cond.fieldLink RX1 19 "BowedPlate$Figure" "reaches" "I", Cond.fieldLink RX1 23 "BowedPlate$Figure" "ways" "LBowedPlate$Ways;", Cond.fieldLink RX1 27 "BowedPlate$Figure" "now" "LBowedPlate$State;", Cond.methodLink RX8 41 yX3_init, Cond.instanceMethod yX3_init, Cond.code yX3_init cX3_init 3 none, Cond.methodLink RX3 3 objectInit, Cond.fieldLink RX3 9 "BowedPlate$Mover" "swings" "[I", Cond.fieldLink RX3 15 "BowedPlate$Mover" "targets" "[I", Cond.fieldLink RX3 18 "BowedPlate$Mover" "arrivals" "[I", Cond.fieldLink RX3 21 "BowedPlate$Mover" "ways" "LBowedPlate$Ways;", Cond.fieldLink RX3 25 "BowedPlate$Mover" "now" "LBowedPlate$State;", Cond.instanceMethod yX6_init, Cond.code yX6_init cX6_init 1 none]
def wsX8_init_r6 : List Cond := [Cond.methodLink RX6 3 objectInit, Cond.arrayClass .char, Cond.fieldLink RX6 9 "BowedPlate$Text" "characters" "[C", Cond.fieldLink RX6 15 "BowedPlate$Text" "length" "I", Cond.classLink RX6 19 RX4, Cond.fieldLink RX6 24 "BowedPlate$Text" "piece" "LBowedPlate$Piece;", Cond.fieldLink RX6 28 "BowedPlate$Text" "cursor" "I", Cond.methodLink RX6 21 yX4_init, Cond.methodLink RX8 55 yX2_init, Cond.instanceMethod yX2_init, Cond.code yX2_init cX2_init 2 none, Cond.methodLink RX2 3 objectInit, Cond.classLink RX2 9 RX5, Cond.fieldLink RX2 11 "BowedPlate$History" "states" "[LBowedPlate$State;", Cond.fieldLink RX2 17 "BowedPlate$History" "oldest" "I", Cond.fieldLink RX2 21 "BowedPlate$History" "held" "I", Cond.methodLink RX2 24 yX5_init]
def wsX8_init : List Cond := .code yX8_init cX8_init 1 none :: ((wsX8_init_r1 ++ (wsX8_init_r2 ++ (wsX8_init_r3 ++ (wsX8_init_r4 ++ (wsX8_init_r5 ++ wsX8_init_r6))))) ++ wsX70 ++ wsX80 ++ wsX50 ++ wsX00 ++ wsX10 ++ wsX30 ++ wsX60 ++ wsX20 ++ wsX40)
def wsX8_strew_r1 : List Cond := [Cond.fieldLink RX8 56 "BowedPlate" "history" "LBowedPlate$History;", Cond.fieldLink RX8 19 "BowedPlate" "now" "LBowedPlate$State;", Cond.methodLink RX8 67 yX8_isPlace, Cond.static yX8_isPlace, Cond.initialized RX8, Cond.code yX8_isPlace cX8_isPlace 2 (some .boolean), Cond.methodLink RX8 71 yX2_record, Cond.instanceMethod yX2_record, Cond.selects RX2 yX2_record yX2_record, Cond.initialized RX2, Cond.code yX2_record cX2_record 3 none, Cond.fieldLink RX2 21 "BowedPlate$History" "held" "I", Cond.fieldLink RX2 17 "BowedPlate$History" "oldest" "I", Cond.fieldLink RX2 11 "BowedPlate$History" "states" "[LBowedPlate$State;", Cond.methodLink RX2 25 yX5_copyFrom, Cond.instanceMethod yX5_copyFrom, Cond.selects RX5 yX5_copyFrom yX5_copyFrom, Cond.initialized RX5, Cond.code yX5_copyFrom cX5_copyFrom 2 none, Cond.fieldLink RX5 9 "BowedPlate$State" "grains" "[I", Cond.methodLink RX5 61 arraycopyName, Cond.native arraycopyName, Cond.static arraycopyName, Cond.initialized "java/lang/System"]
def wsX8_strew_r2 : List Cond := [Cond.fieldLink RX5 15 "BowedPlate$State" "clampColumns" "[I", Cond.fieldLink RX5 18 "BowedPlate$State" "clampRows" "[I", Cond.fieldLink RX5 21 "BowedPlate$State" "clamps" "I", Cond.fieldLink RX5 25 "BowedPlate$State" "settings" "[I", Cond.fieldLink RX5 33 "BowedPlate$State" "piece" "LBowedPlate$Piece;", Cond.fieldLink RX5 37 "BowedPlate$State" "lastWay" "I", Cond.fieldLink RX5 40 "BowedPlate$State" "strewn" "I", Cond.fieldLink RX5 43 "BowedPlate$State" "swept" "I", Cond.fieldLink RX5 46 "BowedPlate$State" "fallen" "I", Cond.fieldLink RX5 49 "BowedPlate$State" "strokes" "I", Cond.fieldLink RX5 52 "BowedPlate$State" "mutes" "I", Cond.methodLink RX5 67 yX4_copyFrom, Cond.instanceMethod yX4_copyFrom, Cond.selects RX4 yX4_copyFrom yX4_copyFrom, Cond.initialized RX4, Cond.code yX4_copyFrom cX4_copyFrom 2 none, Cond.fieldLink RX4 7 "BowedPlate$Piece" "size" "I", Cond.methodLink RX4 36 yX4_appendAll, Cond.instanceMethod yX4_appendAll, Cond.selects RX4 yX4_appendAll yX4_appendAll, Cond.code yX4_appendAll cX4_appendAll 3 none, Cond.fieldLink RX4 22 "BowedPlate$Piece" "sides" "[I", Cond.fieldLink RX4 26 "BowedPlate$Piece" "alongs" "[I", Cond.fieldLink RX4 29 "BowedPlate$Piece" "strokes" "[I"]
def wsX8_strew_r3 : List Cond := [Cond.methodLink RX4 32 yX4_append, Cond.instanceMethod yX4_append, Cond.selects RX4 yX4_append yX4_append, Cond.code yX4_append cX4_append 4 none, Cond.fieldLink RX4 19 "BowedPlate$Piece" "limit" "I", Cond.methodLink RX8 75 yX8_placeOf, Cond.static yX8_placeOf, Cond.code yX8_placeOf cX8_placeOf 2 (some .int)]
def wsX8_strew : List Cond := .code yX8_strew cX8_strew 5 (some .int) :: ((wsX8_strew_r1 ++ (wsX8_strew_r2 ++ wsX8_strew_r3)) ++ wsX80 ++ wsX50 ++ wsX20 ++ wsX40)
def wsX8_sweep_r1 : List Cond := [Cond.fieldLink RX8 56 "BowedPlate" "history" "LBowedPlate$History;", Cond.fieldLink RX8 19 "BowedPlate" "now" "LBowedPlate$State;", Cond.methodLink RX8 71 yX2_record, Cond.instanceMethod yX2_record, Cond.selects RX2 yX2_record yX2_record, Cond.initialized RX2, Cond.code yX2_record cX2_record 3 none, Cond.fieldLink RX2 21 "BowedPlate$History" "held" "I", Cond.fieldLink RX2 17 "BowedPlate$History" "oldest" "I", Cond.fieldLink RX2 11 "BowedPlate$History" "states" "[LBowedPlate$State;", Cond.methodLink RX2 25 yX5_copyFrom, Cond.instanceMethod yX5_copyFrom, Cond.selects RX5 yX5_copyFrom yX5_copyFrom, Cond.initialized RX5, Cond.code yX5_copyFrom cX5_copyFrom 2 none, Cond.fieldLink RX5 9 "BowedPlate$State" "grains" "[I", Cond.methodLink RX5 61 arraycopyName, Cond.native arraycopyName, Cond.static arraycopyName, Cond.initialized "java/lang/System", Cond.fieldLink RX5 15 "BowedPlate$State" "clampColumns" "[I", Cond.fieldLink RX5 18 "BowedPlate$State" "clampRows" "[I", Cond.fieldLink RX5 21 "BowedPlate$State" "clamps" "I", Cond.fieldLink RX5 25 "BowedPlate$State" "settings" "[I"]
def wsX8_sweep_r2 : List Cond := [Cond.fieldLink RX5 33 "BowedPlate$State" "piece" "LBowedPlate$Piece;", Cond.fieldLink RX5 37 "BowedPlate$State" "lastWay" "I", Cond.fieldLink RX5 40 "BowedPlate$State" "strewn" "I", Cond.fieldLink RX5 43 "BowedPlate$State" "swept" "I", Cond.fieldLink RX5 46 "BowedPlate$State" "fallen" "I", Cond.fieldLink RX5 49 "BowedPlate$State" "strokes" "I", Cond.fieldLink RX5 52 "BowedPlate$State" "mutes" "I", Cond.methodLink RX5 67 yX4_copyFrom, Cond.instanceMethod yX4_copyFrom, Cond.selects RX4 yX4_copyFrom yX4_copyFrom, Cond.initialized RX4, Cond.code yX4_copyFrom cX4_copyFrom 2 none, Cond.fieldLink RX4 7 "BowedPlate$Piece" "size" "I", Cond.methodLink RX4 36 yX4_appendAll, Cond.instanceMethod yX4_appendAll, Cond.selects RX4 yX4_appendAll yX4_appendAll, Cond.code yX4_appendAll cX4_appendAll 3 none, Cond.fieldLink RX4 22 "BowedPlate$Piece" "sides" "[I", Cond.fieldLink RX4 26 "BowedPlate$Piece" "alongs" "[I", Cond.fieldLink RX4 29 "BowedPlate$Piece" "strokes" "[I", Cond.methodLink RX4 32 yX4_append, Cond.instanceMethod yX4_append, Cond.selects RX4 yX4_append yX4_append, Cond.code yX4_append cX4_append 4 none]
def wsX8_sweep_r3 : List Cond := [Cond.fieldLink RX4 19 "BowedPlate$Piece" "limit" "I", Cond.methodLink RX8 87 yX5_allGrains, Cond.instanceMethod yX5_allGrains, Cond.selects RX5 yX5_allGrains yX5_allGrains, Cond.code yX5_allGrains cX5_allGrains 3 (some .int), Cond.methodLink RX8 94 yX5_coverWith, Cond.instanceMethod yX5_coverWith, Cond.selects RX5 yX5_coverWith yX5_coverWith, Cond.code yX5_coverWith cX5_coverWith 3 none]
def wsX8_sweep : List Cond := .code yX8_sweep cX8_sweep 3 (some .int) :: ((wsX8_sweep_r1 ++ (wsX8_sweep_r2 ++ wsX8_sweep_r3)) ++ wsX80 ++ wsX50 ++ wsX20 ++ wsX40)
def wsX8_clamp_r1 : List Cond := [Cond.fieldLink RX8 19 "BowedPlate" "now" "LBowedPlate$State;", Cond.fieldLink RX8 56 "BowedPlate" "history" "LBowedPlate$History;", Cond.methodLink RX8 67 yX8_isPlace, Cond.static yX8_isPlace, Cond.initialized RX8, Cond.code yX8_isPlace cX8_isPlace 2 (some .boolean), Cond.methodLink RX8 101 yX5_clampOn, Cond.instanceMethod yX5_clampOn, Cond.selects RX5 yX5_clampOn yX5_clampOn, Cond.initialized RX5, Cond.code yX5_clampOn cX5_clampOn 4 (some .int), Cond.fieldLink RX5 21 "BowedPlate$State" "clamps" "I", Cond.fieldLink RX5 15 "BowedPlate$State" "clampColumns" "[I", Cond.fieldLink RX5 18 "BowedPlate$State" "clampRows" "[I", Cond.methodLink RX8 71 yX2_record, Cond.instanceMethod yX2_record, Cond.selects RX2 yX2_record yX2_record, Cond.initialized RX2, Cond.code yX2_record cX2_record 3 none, Cond.fieldLink RX2 21 "BowedPlate$History" "held" "I", Cond.fieldLink RX2 17 "BowedPlate$History" "oldest" "I", Cond.fieldLink RX2 11 "BowedPlate$History" "states" "[LBowedPlate$State;", Cond.methodLink RX2 25 yX5_copyFrom, Cond.instanceMethod yX5_copyFrom]
def wsX8_clamp_r2 : List Cond := [Cond.selects RX5 yX5_copyFrom yX5_copyFrom, Cond.code yX5_copyFrom cX5_copyFrom 2 none, Cond.fieldLink RX5 9 "BowedPlate$State" "grains" "[I", Cond.methodLink RX5 61 arraycopyName, Cond.native arraycopyName, Cond.static arraycopyName, Cond.initialized "java/lang/System", Cond.fieldLink RX5 25 "BowedPlate$State" "settings" "[I", Cond.fieldLink RX5 33 "BowedPlate$State" "piece" "LBowedPlate$Piece;", Cond.fieldLink RX5 37 "BowedPlate$State" "lastWay" "I", Cond.fieldLink RX5 40 "BowedPlate$State" "strewn" "I", Cond.fieldLink RX5 43 "BowedPlate$State" "swept" "I", Cond.fieldLink RX5 46 "BowedPlate$State" "fallen" "I", Cond.fieldLink RX5 49 "BowedPlate$State" "strokes" "I", Cond.fieldLink RX5 52 "BowedPlate$State" "mutes" "I", Cond.methodLink RX5 67 yX4_copyFrom, Cond.instanceMethod yX4_copyFrom, Cond.selects RX4 yX4_copyFrom yX4_copyFrom, Cond.initialized RX4, Cond.code yX4_copyFrom cX4_copyFrom 2 none, Cond.fieldLink RX4 7 "BowedPlate$Piece" "size" "I", Cond.methodLink RX4 36 yX4_appendAll, Cond.instanceMethod yX4_appendAll, Cond.selects RX4 yX4_appendAll yX4_appendAll]
def wsX8_clamp_r3 : List Cond := [Cond.code yX4_appendAll cX4_appendAll 3 none, Cond.fieldLink RX4 22 "BowedPlate$Piece" "sides" "[I", Cond.fieldLink RX4 26 "BowedPlate$Piece" "alongs" "[I", Cond.fieldLink RX4 29 "BowedPlate$Piece" "strokes" "[I", Cond.methodLink RX4 32 yX4_append, Cond.instanceMethod yX4_append, Cond.selects RX4 yX4_append yX4_append, Cond.code yX4_append cX4_append 4 none, Cond.fieldLink RX4 19 "BowedPlate$Piece" "limit" "I"]
def wsX8_clamp : List Cond := .code yX8_clamp cX8_clamp 3 (some .int) :: ((wsX8_clamp_r1 ++ (wsX8_clamp_r2 ++ wsX8_clamp_r3)) ++ wsX80 ++ wsX50 ++ wsX20 ++ wsX40)
def wsX8_isClamp : List Cond := .code yX8_isClamp cX8_isClamp 2 (some .boolean) :: ([.fieldLink RX8 19 "BowedPlate" "now" "LBowedPlate$State;"] ++ wsX80 ++ wsX50)
def wsX8_unclamp_r1 : List Cond := [Cond.fieldLink RX8 56 "BowedPlate" "history" "LBowedPlate$History;", Cond.fieldLink RX8 19 "BowedPlate" "now" "LBowedPlate$State;", Cond.methodLink RX8 110 yX8_isClamp, Cond.instanceMethod yX8_isClamp, Cond.selects RX8 yX8_isClamp yX8_isClamp, Cond.initialized RX8, Cond.code yX8_isClamp cX8_isClamp 2 (some .boolean), Cond.methodLink RX8 71 yX2_record, Cond.instanceMethod yX2_record, Cond.selects RX2 yX2_record yX2_record, Cond.initialized RX2, Cond.code yX2_record cX2_record 3 none, Cond.fieldLink RX2 21 "BowedPlate$History" "held" "I", Cond.fieldLink RX2 17 "BowedPlate$History" "oldest" "I", Cond.fieldLink RX2 11 "BowedPlate$History" "states" "[LBowedPlate$State;", Cond.methodLink RX2 25 yX5_copyFrom, Cond.instanceMethod yX5_copyFrom, Cond.selects RX5 yX5_copyFrom yX5_copyFrom, Cond.initialized RX5, Cond.code yX5_copyFrom cX5_copyFrom 2 none, Cond.fieldLink RX5 9 "BowedPlate$State" "grains" "[I", Cond.methodLink RX5 61 arraycopyName, Cond.native arraycopyName, Cond.static arraycopyName]
def wsX8_unclamp_r2 : List Cond := [Cond.initialized "java/lang/System", Cond.fieldLink RX5 15 "BowedPlate$State" "clampColumns" "[I", Cond.fieldLink RX5 18 "BowedPlate$State" "clampRows" "[I", Cond.fieldLink RX5 21 "BowedPlate$State" "clamps" "I", Cond.fieldLink RX5 25 "BowedPlate$State" "settings" "[I", Cond.fieldLink RX5 33 "BowedPlate$State" "piece" "LBowedPlate$Piece;", Cond.fieldLink RX5 37 "BowedPlate$State" "lastWay" "I", Cond.fieldLink RX5 40 "BowedPlate$State" "strewn" "I", Cond.fieldLink RX5 43 "BowedPlate$State" "swept" "I", Cond.fieldLink RX5 46 "BowedPlate$State" "fallen" "I", Cond.fieldLink RX5 49 "BowedPlate$State" "strokes" "I", Cond.fieldLink RX5 52 "BowedPlate$State" "mutes" "I", Cond.methodLink RX5 67 yX4_copyFrom, Cond.instanceMethod yX4_copyFrom, Cond.selects RX4 yX4_copyFrom yX4_copyFrom, Cond.initialized RX4, Cond.code yX4_copyFrom cX4_copyFrom 2 none, Cond.fieldLink RX4 7 "BowedPlate$Piece" "size" "I", Cond.methodLink RX4 36 yX4_appendAll, Cond.instanceMethod yX4_appendAll, Cond.selects RX4 yX4_appendAll yX4_appendAll, Cond.code yX4_appendAll cX4_appendAll 3 none, Cond.fieldLink RX4 22 "BowedPlate$Piece" "sides" "[I", Cond.fieldLink RX4 26 "BowedPlate$Piece" "alongs" "[I"]
def wsX8_unclamp_r3 : List Cond := [Cond.fieldLink RX4 29 "BowedPlate$Piece" "strokes" "[I", Cond.methodLink RX4 32 yX4_append, Cond.instanceMethod yX4_append, Cond.selects RX4 yX4_append yX4_append, Cond.code yX4_append cX4_append 4 none, Cond.fieldLink RX4 19 "BowedPlate$Piece" "limit" "I", Cond.methodLink RX8 114 yX5_dropClamp, Cond.instanceMethod yX5_dropClamp, Cond.selects RX5 yX5_dropClamp yX5_dropClamp, Cond.code yX5_dropClamp cX5_dropClamp 3 none]
def wsX8_unclamp : List Cond := .code yX8_unclamp cX8_unclamp 2 (some .int) :: ((wsX8_unclamp_r1 ++ (wsX8_unclamp_r2 ++ wsX8_unclamp_r3)) ++ wsX80 ++ wsX50 ++ wsX20 ++ wsX40)
def wsX8_set_r1 : List Cond := [Cond.fieldLink RX8 117 "BowedPlate" "LEAST_SETTING" "[I", Cond.fieldLink RX8 120 "BowedPlate" "MOST_SETTING" "[I", Cond.fieldLink RX8 19 "BowedPlate" "now" "LBowedPlate$State;", Cond.fieldLink RX8 56 "BowedPlate" "history" "LBowedPlate$History;", Cond.methodLink RX8 71 yX2_record, Cond.instanceMethod yX2_record, Cond.selects RX2 yX2_record yX2_record, Cond.initialized RX2, Cond.code yX2_record cX2_record 3 none, Cond.fieldLink RX2 21 "BowedPlate$History" "held" "I", Cond.fieldLink RX2 17 "BowedPlate$History" "oldest" "I", Cond.fieldLink RX2 11 "BowedPlate$History" "states" "[LBowedPlate$State;", Cond.methodLink RX2 25 yX5_copyFrom, Cond.instanceMethod yX5_copyFrom, Cond.selects RX5 yX5_copyFrom yX5_copyFrom, Cond.initialized RX5, Cond.code yX5_copyFrom cX5_copyFrom 2 none, Cond.fieldLink RX5 9 "BowedPlate$State" "grains" "[I", Cond.methodLink RX5 61 arraycopyName, Cond.native arraycopyName, Cond.static arraycopyName, Cond.initialized "java/lang/System", Cond.fieldLink RX5 15 "BowedPlate$State" "clampColumns" "[I", Cond.fieldLink RX5 18 "BowedPlate$State" "clampRows" "[I"]
def wsX8_set_r2 : List Cond := [Cond.fieldLink RX5 21 "BowedPlate$State" "clamps" "I", Cond.fieldLink RX5 25 "BowedPlate$State" "settings" "[I", Cond.fieldLink RX5 33 "BowedPlate$State" "piece" "LBowedPlate$Piece;", Cond.fieldLink RX5 37 "BowedPlate$State" "lastWay" "I", Cond.fieldLink RX5 40 "BowedPlate$State" "strewn" "I", Cond.fieldLink RX5 43 "BowedPlate$State" "swept" "I", Cond.fieldLink RX5 46 "BowedPlate$State" "fallen" "I", Cond.fieldLink RX5 49 "BowedPlate$State" "strokes" "I", Cond.fieldLink RX5 52 "BowedPlate$State" "mutes" "I", Cond.methodLink RX5 67 yX4_copyFrom, Cond.instanceMethod yX4_copyFrom, Cond.selects RX4 yX4_copyFrom yX4_copyFrom, Cond.initialized RX4, Cond.code yX4_copyFrom cX4_copyFrom 2 none, Cond.fieldLink RX4 7 "BowedPlate$Piece" "size" "I", Cond.methodLink RX4 36 yX4_appendAll, Cond.instanceMethod yX4_appendAll, Cond.selects RX4 yX4_appendAll yX4_appendAll, Cond.code yX4_appendAll cX4_appendAll 3 none, Cond.fieldLink RX4 22 "BowedPlate$Piece" "sides" "[I", Cond.fieldLink RX4 26 "BowedPlate$Piece" "alongs" "[I", Cond.fieldLink RX4 29 "BowedPlate$Piece" "strokes" "[I", Cond.methodLink RX4 32 yX4_append, Cond.instanceMethod yX4_append]
def wsX8_set_r3 : List Cond := [Cond.selects RX4 yX4_append yX4_append, Cond.code yX4_append cX4_append 4 none, Cond.fieldLink RX4 19 "BowedPlate$Piece" "limit" "I"]
def wsX8_set : List Cond := .code yX8_set cX8_set 4 (some .int) :: ((wsX8_set_r1 ++ (wsX8_set_r2 ++ wsX8_set_r3)) ++ wsX80 ++ wsX50 ++ wsX20 ++ wsX40)
def wsX8_isLine : List Cond := .code yX8_isLine cX8_isLine 1 (some .boolean) :: ([])
def wsX8_isBow : List Cond := .code yX8_isBow cX8_isBow 2 (some .boolean) :: ([.methodLink RX8 256 yX8_isLine, .static yX8_isLine, .initialized RX8, .code yX8_isLine cX8_isLine 1 (some .boolean)])
def wsX8_bow_r1 : List Cond := [Cond.fieldLink RX8 19 "BowedPlate" "now" "LBowedPlate$State;", Cond.fieldLink RX8 56 "BowedPlate" "history" "LBowedPlate$History;", Cond.methodLink RX8 126 yX8_isBow, Cond.static yX8_isBow, Cond.initialized RX8, Cond.code yX8_isBow cX8_isBow 2 (some .boolean), Cond.methodLink RX8 256 yX8_isLine, Cond.static yX8_isLine, Cond.code yX8_isLine cX8_isLine 1 (some .boolean), Cond.methodLink RX8 71 yX2_record, Cond.instanceMethod yX2_record, Cond.selects RX2 yX2_record yX2_record, Cond.initialized RX2, Cond.code yX2_record cX2_record 3 none, Cond.fieldLink RX2 21 "BowedPlate$History" "held" "I", Cond.fieldLink RX2 17 "BowedPlate$History" "oldest" "I", Cond.fieldLink RX2 11 "BowedPlate$History" "states" "[LBowedPlate$State;", Cond.methodLink RX2 25 yX5_copyFrom, Cond.instanceMethod yX5_copyFrom, Cond.selects RX5 yX5_copyFrom yX5_copyFrom, Cond.initialized RX5, Cond.code yX5_copyFrom cX5_copyFrom 2 none, Cond.fieldLink RX5 9 "BowedPlate$State" "grains" "[I", Cond.methodLink RX5 61 arraycopyName]
def wsX8_bow_r2 : List Cond := [Cond.native arraycopyName, Cond.static arraycopyName, Cond.initialized "java/lang/System", Cond.fieldLink RX5 15 "BowedPlate$State" "clampColumns" "[I", Cond.fieldLink RX5 18 "BowedPlate$State" "clampRows" "[I", Cond.fieldLink RX5 21 "BowedPlate$State" "clamps" "I", Cond.fieldLink RX5 25 "BowedPlate$State" "settings" "[I", Cond.fieldLink RX5 33 "BowedPlate$State" "piece" "LBowedPlate$Piece;", Cond.fieldLink RX5 37 "BowedPlate$State" "lastWay" "I", Cond.fieldLink RX5 40 "BowedPlate$State" "strewn" "I", Cond.fieldLink RX5 43 "BowedPlate$State" "swept" "I", Cond.fieldLink RX5 46 "BowedPlate$State" "fallen" "I", Cond.fieldLink RX5 49 "BowedPlate$State" "strokes" "I", Cond.fieldLink RX5 52 "BowedPlate$State" "mutes" "I", Cond.methodLink RX5 67 yX4_copyFrom, Cond.instanceMethod yX4_copyFrom, Cond.selects RX4 yX4_copyFrom yX4_copyFrom, Cond.initialized RX4, Cond.code yX4_copyFrom cX4_copyFrom 2 none, Cond.fieldLink RX4 7 "BowedPlate$Piece" "size" "I", Cond.methodLink RX4 36 yX4_appendAll, Cond.instanceMethod yX4_appendAll, Cond.selects RX4 yX4_appendAll yX4_appendAll, Cond.code yX4_appendAll cX4_appendAll 3 none]
def wsX8_bow_r3 : List Cond := [Cond.fieldLink RX4 22 "BowedPlate$Piece" "sides" "[I", Cond.fieldLink RX4 26 "BowedPlate$Piece" "alongs" "[I", Cond.fieldLink RX4 29 "BowedPlate$Piece" "strokes" "[I", Cond.methodLink RX4 32 yX4_append, Cond.instanceMethod yX4_append, Cond.selects RX4 yX4_append yX4_append, Cond.code yX4_append cX4_append 4 none, Cond.fieldLink RX4 19 "BowedPlate$Piece" "limit" "I", Cond.methodLink RX8 138 yX4_append]
def wsX8_bow : List Cond := .code yX8_bow cX8_bow 4 (some .int) :: ((wsX8_bow_r1 ++ (wsX8_bow_r2 ++ wsX8_bow_r3)) ++ wsX80 ++ wsX50 ++ wsX40 ++ wsX20)
def wsX8_bowAll_r1 : List Cond := [Cond.fieldLink RX8 49 "BowedPlate" "text" "LBowedPlate$Text;", Cond.fieldLink RX8 19 "BowedPlate" "now" "LBowedPlate$State;", Cond.fieldLink RX8 56 "BowedPlate" "history" "LBowedPlate$History;", Cond.methodLink RX8 142 yX6_read, Cond.instanceMethod yX6_read, Cond.selects RX6 yX6_read yX6_read, Cond.initialized RX6, Cond.code yX6_read cX6_read 2 (some .boolean), Cond.fieldLink RX6 28 "BowedPlate$Text" "cursor" "I", Cond.fieldLink RX6 24 "BowedPlate$Text" "piece" "LBowedPlate$Piece;", Cond.methodLink RX6 34 yX6_readBowing, Cond.instanceMethod yX6_readBowing, Cond.selects RX6 yX6_readBowing yX6_readBowing, Cond.code yX6_readBowing cX6_readBowing 4 (some .boolean), Cond.methodLink RX6 38 yX6_next, Cond.instanceMethod yX6_next, Cond.selects RX6 yX6_next yX6_next, Cond.code yX6_next cX6_next 2 (some .int), Cond.fieldLink RX6 15 "BowedPlate$Text" "length" "I", Cond.fieldLink RX6 9 "BowedPlate$Text" "characters" "[C", Cond.methodLink RX6 42 yX6_sideOf, Cond.static yX6_sideOf, Cond.code yX6_sideOf cX6_sideOf 1 (some .int), Cond.methodLink RX6 46 yX6_readNumber]
def wsX8_bowAll_r2 : List Cond := [Cond.instanceMethod yX6_readNumber, Cond.selects RX6 yX6_readNumber yX6_readNumber, Cond.code yX6_readNumber cX6_readNumber 6 (some .int), Cond.methodLink RX6 54 yX6_digitOf, Cond.static yX6_digitOf, Cond.code yX6_digitOf cX6_digitOf 1 (some .int), Cond.methodLink RX6 50 yX4_append, Cond.instanceMethod yX4_append, Cond.selects RX4 yX4_append yX4_append, Cond.initialized RX4, Cond.code yX4_append cX4_append 4 none, Cond.fieldLink RX4 7 "BowedPlate$Piece" "size" "I", Cond.fieldLink RX4 19 "BowedPlate$Piece" "limit" "I", Cond.fieldLink RX4 22 "BowedPlate$Piece" "sides" "[I", Cond.fieldLink RX4 26 "BowedPlate$Piece" "alongs" "[I", Cond.fieldLink RX4 29 "BowedPlate$Piece" "strokes" "[I", Cond.methodLink RX8 146 yX6_fault, Cond.instanceMethod yX6_fault, Cond.selects RX6 yX6_fault yX6_fault, Cond.code yX6_fault cX6_fault 1 (some .int), Cond.methodLink RX8 71 yX2_record, Cond.instanceMethod yX2_record, Cond.selects RX2 yX2_record yX2_record, Cond.initialized RX2]
def wsX8_bowAll_r3 : List Cond := [Cond.code yX2_record cX2_record 3 none, Cond.fieldLink RX2 21 "BowedPlate$History" "held" "I", Cond.fieldLink RX2 17 "BowedPlate$History" "oldest" "I", Cond.fieldLink RX2 11 "BowedPlate$History" "states" "[LBowedPlate$State;", Cond.methodLink RX2 25 yX5_copyFrom, Cond.instanceMethod yX5_copyFrom, Cond.selects RX5 yX5_copyFrom yX5_copyFrom, Cond.initialized RX5, Cond.code yX5_copyFrom cX5_copyFrom 2 none, Cond.fieldLink RX5 9 "BowedPlate$State" "grains" "[I", Cond.methodLink RX5 61 arraycopyName, Cond.native arraycopyName, Cond.static arraycopyName, Cond.initialized "java/lang/System", Cond.fieldLink RX5 15 "BowedPlate$State" "clampColumns" "[I", Cond.fieldLink RX5 18 "BowedPlate$State" "clampRows" "[I", Cond.fieldLink RX5 21 "BowedPlate$State" "clamps" "I", Cond.fieldLink RX5 25 "BowedPlate$State" "settings" "[I", Cond.fieldLink RX5 33 "BowedPlate$State" "piece" "LBowedPlate$Piece;", Cond.fieldLink RX5 37 "BowedPlate$State" "lastWay" "I", Cond.fieldLink RX5 40 "BowedPlate$State" "strewn" "I", Cond.fieldLink RX5 43 "BowedPlate$State" "swept" "I", Cond.fieldLink RX5 46 "BowedPlate$State" "fallen" "I", Cond.fieldLink RX5 49 "BowedPlate$State" "strokes" "I"]
def wsX8_bowAll_r4 : List Cond := [Cond.fieldLink RX5 52 "BowedPlate$State" "mutes" "I", Cond.methodLink RX5 67 yX4_copyFrom, Cond.instanceMethod yX4_copyFrom, Cond.selects RX4 yX4_copyFrom yX4_copyFrom, Cond.code yX4_copyFrom cX4_copyFrom 2 none, Cond.methodLink RX4 36 yX4_appendAll, Cond.instanceMethod yX4_appendAll, Cond.selects RX4 yX4_appendAll yX4_appendAll, Cond.code yX4_appendAll cX4_appendAll 3 none, Cond.methodLink RX4 32 yX4_append, Cond.methodLink RX8 150 yX4_appendAll]
def wsX8_bowAll : List Cond := .code yX8_bowAll cX8_bowAll 1 (some .int) :: ((wsX8_bowAll_r1 ++ (wsX8_bowAll_r2 ++ (wsX8_bowAll_r3 ++ wsX8_bowAll_r4))) ++ wsX80 ++ wsX50 ++ wsX40 ++ wsX60 ++ wsX20)
def wsX8_strike_r1 : List Cond := [Cond.fieldLink RX8 19 "BowedPlate" "now" "LBowedPlate$State;", Cond.fieldLink RX8 56 "BowedPlate" "history" "LBowedPlate$History;", Cond.methodLink RX8 154 yX4_sizeAt, Cond.instanceMethod yX4_sizeAt, Cond.selects RX4 yX4_sizeAt yX4_sizeAt, Cond.initialized RX4, Cond.code yX4_sizeAt cX4_sizeAt 4 (some .int), Cond.fieldLink RX4 7 "BowedPlate$Piece" "size" "I", Cond.fieldLink RX4 22 "BowedPlate$Piece" "sides" "[I", Cond.methodLink RX8 71 yX2_record, Cond.instanceMethod yX2_record, Cond.selects RX2 yX2_record yX2_record, Cond.initialized RX2, Cond.code yX2_record cX2_record 3 none, Cond.fieldLink RX2 21 "BowedPlate$History" "held" "I", Cond.fieldLink RX2 17 "BowedPlate$History" "oldest" "I", Cond.fieldLink RX2 11 "BowedPlate$History" "states" "[LBowedPlate$State;", Cond.methodLink RX2 25 yX5_copyFrom, Cond.instanceMethod yX5_copyFrom, Cond.selects RX5 yX5_copyFrom yX5_copyFrom, Cond.initialized RX5, Cond.code yX5_copyFrom cX5_copyFrom 2 none, Cond.fieldLink RX5 9 "BowedPlate$State" "grains" "[I", Cond.methodLink RX5 61 arraycopyName]
def wsX8_strike_r2 : List Cond := [Cond.native arraycopyName, Cond.static arraycopyName, Cond.initialized "java/lang/System", Cond.fieldLink RX5 15 "BowedPlate$State" "clampColumns" "[I", Cond.fieldLink RX5 18 "BowedPlate$State" "clampRows" "[I", Cond.fieldLink RX5 21 "BowedPlate$State" "clamps" "I", Cond.fieldLink RX5 25 "BowedPlate$State" "settings" "[I", Cond.fieldLink RX5 33 "BowedPlate$State" "piece" "LBowedPlate$Piece;", Cond.fieldLink RX5 37 "BowedPlate$State" "lastWay" "I", Cond.fieldLink RX5 40 "BowedPlate$State" "strewn" "I", Cond.fieldLink RX5 43 "BowedPlate$State" "swept" "I", Cond.fieldLink RX5 46 "BowedPlate$State" "fallen" "I", Cond.fieldLink RX5 49 "BowedPlate$State" "strokes" "I", Cond.fieldLink RX5 52 "BowedPlate$State" "mutes" "I", Cond.methodLink RX5 67 yX4_copyFrom, Cond.instanceMethod yX4_copyFrom, Cond.selects RX4 yX4_copyFrom yX4_copyFrom, Cond.code yX4_copyFrom cX4_copyFrom 2 none, Cond.methodLink RX4 36 yX4_appendAll, Cond.instanceMethod yX4_appendAll, Cond.selects RX4 yX4_appendAll yX4_appendAll, Cond.code yX4_appendAll cX4_appendAll 3 none, Cond.fieldLink RX4 26 "BowedPlate$Piece" "alongs" "[I", Cond.fieldLink RX4 29 "BowedPlate$Piece" "strokes" "[I"]
def wsX8_strike_r3 : List Cond := [Cond.methodLink RX4 32 yX4_append, Cond.instanceMethod yX4_append, Cond.selects RX4 yX4_append yX4_append, Cond.code yX4_append cX4_append 4 none, Cond.fieldLink RX4 19 "BowedPlate$Piece" "limit" "I", Cond.methodLink RX8 158 yX4_dropSide, Cond.instanceMethod yX4_dropSide, Cond.selects RX4 yX4_dropSide yX4_dropSide, Cond.code yX4_dropSide cX4_dropSide 4 (some .int)]
def wsX8_strike : List Cond := .code yX8_strike cX8_strike 2 (some .int) :: ((wsX8_strike_r1 ++ (wsX8_strike_r2 ++ wsX8_strike_r3)) ++ wsX80 ++ wsX50 ++ wsX40 ++ wsX20)
def wsX8_playBowing_r1 : List Cond := [Cond.fieldLink RX8 28 "BowedPlate" "choice" "LBowedPlate$Choice;", Cond.fieldLink RX8 19 "BowedPlate" "now" "LBowedPlate$State;", Cond.fieldLink RX8 42 "BowedPlate" "mover" "LBowedPlate$Mover;", Cond.methodLink RX8 232 yX0_wayFor, Cond.instanceMethod yX0_wayFor, Cond.selects RX0 yX0_wayFor yX0_wayFor, Cond.initialized RX0, Cond.code yX0_wayFor cX0_wayFor 4 (some .int), Cond.methodLink RX0 54 yX0_bowAllows, Cond.instanceMethod yX0_bowAllows, Cond.selects RX0 yX0_bowAllows yX0_bowAllows, Cond.code yX0_bowAllows cX0_bowAllows 4 (some .boolean), Cond.fieldLink RX0 27 "BowedPlate$Choice" "now" "LBowedPlate$State;", Cond.methodLink RX0 51 yX0_swingAtBow, Cond.instanceMethod yX0_swingAtBow, Cond.selects RX0 yX0_swingAtBow yX0_swingAtBow, Cond.code yX0_swingAtBow cX0_swingAtBow 4 (some .int), Cond.fieldLink RX0 23 "BowedPlate$Choice" "ways" "LBowedPlate$Ways;", Cond.methodLink RX0 42 yX7_swingAt, Cond.instanceMethod yX7_swingAt, Cond.selects RX7 yX7_swingAt yX7_swingAt, Cond.initialized RX7, Cond.code yX7_swingAt cX7_swingAt 8 (some .int), Cond.fieldLink RX7 9 "BowedPlate$Ways" "lesser" "[I"]
def wsX8_playBowing_r2 : List Cond := [Cond.fieldLink RX7 15 "BowedPlate$Ways" "greater" "[I", Cond.fieldLink RX7 21 "BowedPlate$Ways" "heights" "[I", Cond.fieldLink RX7 18 "BowedPlate$Ways" "sign" "[I", Cond.methodLink RX7 44 Lib.Math.abs.name, Cond.static Lib.Math.abs.name, Cond.initialized "java/lang/Math", Cond.code Lib.Math.abs.name Lib.Math.abs.code 1 (some .int), Cond.static yX8_isWay, Cond.initialized RX8, Cond.code yX8_isWay cX8_isWay 1 (some .boolean), Cond.static yX8_isPlace, Cond.code yX8_isPlace cX8_isPlace 2 (some .boolean), Cond.methodLink RX0 58 yX0_clampsAllow, Cond.instanceMethod yX0_clampsAllow, Cond.selects RX0 yX0_clampsAllow yX0_clampsAllow, Cond.code yX0_clampsAllow cX0_clampsAllow 4 (some .boolean), Cond.methodLink RX8 190 yX8_isWay, Cond.methodLink RX8 270 yX3_stroke, Cond.instanceMethod yX3_stroke, Cond.selects RX3 yX3_stroke yX3_stroke, Cond.initialized RX3, Cond.code yX3_stroke cX3_stroke 4 none, Cond.fieldLink RX3 9 "BowedPlate$Mover" "swings" "[I", Cond.fieldLink RX3 21 "BowedPlate$Mover" "ways" "LBowedPlate$Ways;"]
def wsX8_playBowing_r3 : List Cond := [Cond.fieldLink RX3 15 "BowedPlate$Mover" "targets" "[I", Cond.static yX8_columnOf, Cond.code yX8_columnOf cX8_columnOf 1 (some .int), Cond.static yX8_rowOf, Cond.code yX8_rowOf cX8_rowOf 1 (some .int), Cond.methodLink RX3 36 yX7_swingAt, Cond.methodLink RX3 42 yX3_targetOf, Cond.instanceMethod yX3_targetOf, Cond.selects RX3 yX3_targetOf yX3_targetOf, Cond.code yX3_targetOf cX3_targetOf 4 (some .int), Cond.static yX8_placeOf, Cond.code yX8_placeOf cX8_placeOf 2 (some .int), Cond.methodLink RX3 52 yX3_calmerOf, Cond.instanceMethod yX3_calmerOf, Cond.selects RX3 yX3_calmerOf yX3_calmerOf, Cond.code yX3_calmerOf cX3_calmerOf 4 (some .int), Cond.methodLink RX3 46 yX3_strokeOnce, Cond.instanceMethod yX3_strokeOnce, Cond.selects RX3 yX3_strokeOnce yX3_strokeOnce, Cond.code yX3_strokeOnce cX3_strokeOnce 2 none, Cond.fieldLink RX3 18 "BowedPlate$Mover" "arrivals" "[I", Cond.fieldLink RX3 25 "BowedPlate$Mover" "now" "LBowedPlate$State;", Cond.methodLink RX3 67 yX3_shake, Cond.instanceMethod yX3_shake]
def wsX8_playBowing_r4 : List Cond := [Cond.selects RX3 yX3_shake yX3_shake, Cond.code yX3_shake cX3_shake 3 none, Cond.methodLink RX3 71 yX3_isAtEdge, Cond.static yX3_isAtEdge, Cond.code yX3_isAtEdge cX3_isAtEdge 3 (some .boolean)]
def wsX8_playBowing : List Cond := .code yX8_playBowing cX8_playBowing 4 (some .boolean) :: ((wsX8_playBowing_r1 ++ (wsX8_playBowing_r2 ++ (wsX8_playBowing_r3 ++ wsX8_playBowing_r4))) ++ wsX80 ++ wsX50 ++ wsX40 ++ wsX00 ++ wsX70 ++ wsX30)
def wsX8_play_r1 : List Cond := [Cond.fieldLink RX8 19 "BowedPlate" "now" "LBowedPlate$State;", Cond.methodLink RX8 161 Lib.Math.min.name, Cond.static Lib.Math.min.name, Cond.initialized "java/lang/Math", Cond.code Lib.Math.min.name Lib.Math.min.code 2 (some .int), Cond.fieldLink RX8 56 "BowedPlate" "history" "LBowedPlate$History;", Cond.methodLink RX8 71 yX2_record, Cond.instanceMethod yX2_record, Cond.selects RX2 yX2_record yX2_record, Cond.initialized RX2, Cond.code yX2_record cX2_record 3 none, Cond.fieldLink RX2 21 "BowedPlate$History" "held" "I", Cond.fieldLink RX2 17 "BowedPlate$History" "oldest" "I", Cond.fieldLink RX2 11 "BowedPlate$History" "states" "[LBowedPlate$State;", Cond.methodLink RX2 25 yX5_copyFrom, Cond.instanceMethod yX5_copyFrom, Cond.selects RX5 yX5_copyFrom yX5_copyFrom, Cond.initialized RX5, Cond.code yX5_copyFrom cX5_copyFrom 2 none, Cond.fieldLink RX5 9 "BowedPlate$State" "grains" "[I", Cond.methodLink RX5 61 arraycopyName, Cond.native arraycopyName, Cond.static arraycopyName, Cond.initialized "java/lang/System"]
def wsX8_play_r2 : List Cond := [Cond.fieldLink RX5 15 "BowedPlate$State" "clampColumns" "[I", Cond.fieldLink RX5 18 "BowedPlate$State" "clampRows" "[I", Cond.fieldLink RX5 21 "BowedPlate$State" "clamps" "I", Cond.fieldLink RX5 25 "BowedPlate$State" "settings" "[I", Cond.fieldLink RX5 33 "BowedPlate$State" "piece" "LBowedPlate$Piece;", Cond.fieldLink RX5 37 "BowedPlate$State" "lastWay" "I", Cond.fieldLink RX5 40 "BowedPlate$State" "strewn" "I", Cond.fieldLink RX5 43 "BowedPlate$State" "swept" "I", Cond.fieldLink RX5 46 "BowedPlate$State" "fallen" "I", Cond.fieldLink RX5 49 "BowedPlate$State" "strokes" "I", Cond.fieldLink RX5 52 "BowedPlate$State" "mutes" "I", Cond.methodLink RX5 67 yX4_copyFrom, Cond.instanceMethod yX4_copyFrom, Cond.selects RX4 yX4_copyFrom yX4_copyFrom, Cond.initialized RX4, Cond.code yX4_copyFrom cX4_copyFrom 2 none, Cond.fieldLink RX4 7 "BowedPlate$Piece" "size" "I", Cond.methodLink RX4 36 yX4_appendAll, Cond.instanceMethod yX4_appendAll, Cond.selects RX4 yX4_appendAll yX4_appendAll, Cond.code yX4_appendAll cX4_appendAll 3 none, Cond.fieldLink RX4 22 "BowedPlate$Piece" "sides" "[I", Cond.fieldLink RX4 26 "BowedPlate$Piece" "alongs" "[I", Cond.fieldLink RX4 29 "BowedPlate$Piece" "strokes" "[I"]
def wsX8_play_r3 : List Cond := [Cond.methodLink RX4 32 yX4_append, Cond.instanceMethod yX4_append, Cond.selects RX4 yX4_append yX4_append, Cond.code yX4_append cX4_append 4 none, Cond.fieldLink RX4 19 "BowedPlate$Piece" "limit" "I", Cond.methodLink RX8 166 yX8_playBowing, Cond.instanceMethod yX8_playBowing, Cond.selects RX8 yX8_playBowing yX8_playBowing, Cond.initialized RX8, Cond.code yX8_playBowing cX8_playBowing 4 (some .boolean), Cond.fieldLink RX8 28 "BowedPlate" "choice" "LBowedPlate$Choice;", Cond.fieldLink RX8 42 "BowedPlate" "mover" "LBowedPlate$Mover;", Cond.methodLink RX8 232 yX0_wayFor, Cond.instanceMethod yX0_wayFor, Cond.selects RX0 yX0_wayFor yX0_wayFor, Cond.initialized RX0, Cond.code yX0_wayFor cX0_wayFor 4 (some .int), Cond.methodLink RX0 54 yX0_bowAllows, Cond.instanceMethod yX0_bowAllows, Cond.selects RX0 yX0_bowAllows yX0_bowAllows, Cond.code yX0_bowAllows cX0_bowAllows 4 (some .boolean), Cond.fieldLink RX0 27 "BowedPlate$Choice" "now" "LBowedPlate$State;", Cond.methodLink RX0 51 yX0_swingAtBow, Cond.instanceMethod yX0_swingAtBow]
def wsX8_play_r4 : List Cond := [Cond.selects RX0 yX0_swingAtBow yX0_swingAtBow, Cond.code yX0_swingAtBow cX0_swingAtBow 4 (some .int), Cond.fieldLink RX0 23 "BowedPlate$Choice" "ways" "LBowedPlate$Ways;", Cond.methodLink RX0 42 yX7_swingAt, Cond.instanceMethod yX7_swingAt, Cond.selects RX7 yX7_swingAt yX7_swingAt, Cond.initialized RX7, Cond.code yX7_swingAt cX7_swingAt 8 (some .int), Cond.fieldLink RX7 9 "BowedPlate$Ways" "lesser" "[I", Cond.fieldLink RX7 15 "BowedPlate$Ways" "greater" "[I", Cond.fieldLink RX7 21 "BowedPlate$Ways" "heights" "[I", Cond.fieldLink RX7 18 "BowedPlate$Ways" "sign" "[I", Cond.methodLink RX7 44 Lib.Math.abs.name, Cond.static Lib.Math.abs.name, Cond.code Lib.Math.abs.name Lib.Math.abs.code 1 (some .int), Cond.static yX8_isWay, Cond.code yX8_isWay cX8_isWay 1 (some .boolean), Cond.static yX8_isPlace, Cond.code yX8_isPlace cX8_isPlace 2 (some .boolean), Cond.methodLink RX0 58 yX0_clampsAllow, Cond.instanceMethod yX0_clampsAllow, Cond.selects RX0 yX0_clampsAllow yX0_clampsAllow, Cond.code yX0_clampsAllow cX0_clampsAllow 4 (some .boolean), Cond.methodLink RX8 190 yX8_isWay]
def wsX8_play_r5 : List Cond := [Cond.methodLink RX8 270 yX3_stroke, Cond.instanceMethod yX3_stroke, Cond.selects RX3 yX3_stroke yX3_stroke, Cond.initialized RX3, Cond.code yX3_stroke cX3_stroke 4 none, Cond.fieldLink RX3 9 "BowedPlate$Mover" "swings" "[I", Cond.fieldLink RX3 21 "BowedPlate$Mover" "ways" "LBowedPlate$Ways;", Cond.fieldLink RX3 15 "BowedPlate$Mover" "targets" "[I", Cond.static yX8_columnOf, Cond.code yX8_columnOf cX8_columnOf 1 (some .int), Cond.static yX8_rowOf, Cond.code yX8_rowOf cX8_rowOf 1 (some .int), Cond.methodLink RX3 36 yX7_swingAt, Cond.methodLink RX3 42 yX3_targetOf, Cond.instanceMethod yX3_targetOf, Cond.selects RX3 yX3_targetOf yX3_targetOf, Cond.code yX3_targetOf cX3_targetOf 4 (some .int), Cond.static yX8_placeOf, Cond.code yX8_placeOf cX8_placeOf 2 (some .int), Cond.methodLink RX3 52 yX3_calmerOf, Cond.instanceMethod yX3_calmerOf, Cond.selects RX3 yX3_calmerOf yX3_calmerOf, Cond.code yX3_calmerOf cX3_calmerOf 4 (some .int), Cond.methodLink RX3 46 yX3_strokeOnce]
def wsX8_play_r6 : List Cond := [Cond.instanceMethod yX3_strokeOnce, Cond.selects RX3 yX3_strokeOnce yX3_strokeOnce, Cond.code yX3_strokeOnce cX3_strokeOnce 2 none, Cond.fieldLink RX3 18 "BowedPlate$Mover" "arrivals" "[I", Cond.fieldLink RX3 25 "BowedPlate$Mover" "now" "LBowedPlate$State;", Cond.methodLink RX3 67 yX3_shake, Cond.instanceMethod yX3_shake, Cond.selects RX3 yX3_shake yX3_shake, Cond.code yX3_shake cX3_shake 3 none, Cond.methodLink RX3 71 yX3_isAtEdge, Cond.static yX3_isAtEdge, Cond.code yX3_isAtEdge cX3_isAtEdge 3 (some .boolean), Cond.methodLink RX8 169 yX4_dropFirst, Cond.instanceMethod yX4_dropFirst, Cond.selects RX4 yX4_dropFirst yX4_dropFirst, Cond.code yX4_dropFirst cX4_dropFirst 4 none, Cond.methodLink RX4 13 Lib.Math.max.name, Cond.static Lib.Math.max.name, Cond.code Lib.Math.max.name Lib.Math.max.code 2 (some .int)]
def wsX8_play : List Cond := .code yX8_play cX8_play 5 (some .int) :: ((wsX8_play_r1 ++ (wsX8_play_r2 ++ (wsX8_play_r3 ++ (wsX8_play_r4 ++ (wsX8_play_r5 ++ wsX8_play_r6))))) ++ wsX80 ++ wsX50 ++ wsX40 ++ wsX20 ++ wsX00 ++ wsX70 ++ wsX30)
def wsX8_type : List Cond := .code yX8_type cX8_type 2 (some .int) :: ([.fieldLink RX8 49 "BowedPlate" "text" "LBowedPlate$Text;", .methodLink RX8 175 yX6_append, .instanceMethod yX6_append, .selects RX6 yX6_append yX6_append, .initialized RX6, .code yX6_append cX6_append 2 none, .fieldLink RX6 15 "BowedPlate$Text" "length" "I", .fieldLink RX6 9 "BowedPlate$Text" "characters" "[C"] ++ wsX80 ++ wsX60)
def wsX8_clearText : List Cond := .code yX8_clearText cX8_clearText 2 (some .int) :: ([.fieldLink RX8 49 "BowedPlate" "text" "LBowedPlate$Text;"] ++ wsX80 ++ wsX60)
def wsX8_undo_r1 : List Cond := [Cond.fieldLink RX8 56 "BowedPlate" "history" "LBowedPlate$History;", Cond.fieldLink RX8 19 "BowedPlate" "now" "LBowedPlate$State;", Cond.methodLink RX8 181 yX2_takeLatest, Cond.instanceMethod yX2_takeLatest, Cond.selects RX2 yX2_takeLatest yX2_takeLatest, Cond.initialized RX2, Cond.code yX2_takeLatest cX2_takeLatest 3 none, Cond.fieldLink RX2 21 "BowedPlate$History" "held" "I", Cond.fieldLink RX2 11 "BowedPlate$History" "states" "[LBowedPlate$State;", Cond.fieldLink RX2 17 "BowedPlate$History" "oldest" "I", Cond.methodLink RX2 25 yX5_copyFrom, Cond.instanceMethod yX5_copyFrom, Cond.selects RX5 yX5_copyFrom yX5_copyFrom, Cond.initialized RX5, Cond.code yX5_copyFrom cX5_copyFrom 2 none, Cond.fieldLink RX5 9 "BowedPlate$State" "grains" "[I", Cond.methodLink RX5 61 arraycopyName, Cond.native arraycopyName, Cond.static arraycopyName, Cond.initialized "java/lang/System", Cond.fieldLink RX5 15 "BowedPlate$State" "clampColumns" "[I", Cond.fieldLink RX5 18 "BowedPlate$State" "clampRows" "[I", Cond.fieldLink RX5 21 "BowedPlate$State" "clamps" "I", Cond.fieldLink RX5 25 "BowedPlate$State" "settings" "[I"]
def wsX8_undo_r2 : List Cond := [Cond.fieldLink RX5 33 "BowedPlate$State" "piece" "LBowedPlate$Piece;", Cond.fieldLink RX5 37 "BowedPlate$State" "lastWay" "I", Cond.fieldLink RX5 40 "BowedPlate$State" "strewn" "I", Cond.fieldLink RX5 43 "BowedPlate$State" "swept" "I", Cond.fieldLink RX5 46 "BowedPlate$State" "fallen" "I", Cond.fieldLink RX5 49 "BowedPlate$State" "strokes" "I", Cond.fieldLink RX5 52 "BowedPlate$State" "mutes" "I", Cond.methodLink RX5 67 yX4_copyFrom, Cond.instanceMethod yX4_copyFrom, Cond.selects RX4 yX4_copyFrom yX4_copyFrom, Cond.initialized RX4, Cond.code yX4_copyFrom cX4_copyFrom 2 none, Cond.fieldLink RX4 7 "BowedPlate$Piece" "size" "I", Cond.methodLink RX4 36 yX4_appendAll, Cond.instanceMethod yX4_appendAll, Cond.selects RX4 yX4_appendAll yX4_appendAll, Cond.code yX4_appendAll cX4_appendAll 3 none, Cond.fieldLink RX4 22 "BowedPlate$Piece" "sides" "[I", Cond.fieldLink RX4 26 "BowedPlate$Piece" "alongs" "[I", Cond.fieldLink RX4 29 "BowedPlate$Piece" "strokes" "[I", Cond.methodLink RX4 32 yX4_append, Cond.instanceMethod yX4_append, Cond.selects RX4 yX4_append yX4_append, Cond.code yX4_append cX4_append 4 none]
def wsX8_undo_r3 : List Cond := [Cond.fieldLink RX4 19 "BowedPlate$Piece" "limit" "I"]
def wsX8_undo : List Cond := .code yX8_undo cX8_undo 1 (some .int) :: ((wsX8_undo_r1 ++ (wsX8_undo_r2 ++ wsX8_undo_r3)) ++ wsX80 ++ wsX20 ++ wsX50 ++ wsX40)
def wsX8_keep_r1 : List Cond := [Cond.fieldLink RX8 60 "BowedPlate" "snapshot" "LBowedPlate$State;", Cond.fieldLink RX8 19 "BowedPlate" "now" "LBowedPlate$State;", Cond.fieldLink RX8 63 "BowedPlate" "hasSnapshot" "Z", Cond.methodLink RX8 184 yX5_copyFrom, Cond.instanceMethod yX5_copyFrom, Cond.selects RX5 yX5_copyFrom yX5_copyFrom, Cond.initialized RX5, Cond.code yX5_copyFrom cX5_copyFrom 2 none, Cond.fieldLink RX5 9 "BowedPlate$State" "grains" "[I", Cond.methodLink RX5 61 arraycopyName, Cond.native arraycopyName, Cond.static arraycopyName, Cond.initialized "java/lang/System", Cond.fieldLink RX5 15 "BowedPlate$State" "clampColumns" "[I", Cond.fieldLink RX5 18 "BowedPlate$State" "clampRows" "[I", Cond.fieldLink RX5 21 "BowedPlate$State" "clamps" "I", Cond.fieldLink RX5 25 "BowedPlate$State" "settings" "[I", Cond.fieldLink RX5 33 "BowedPlate$State" "piece" "LBowedPlate$Piece;", Cond.fieldLink RX5 37 "BowedPlate$State" "lastWay" "I", Cond.fieldLink RX5 40 "BowedPlate$State" "strewn" "I", Cond.fieldLink RX5 43 "BowedPlate$State" "swept" "I", Cond.fieldLink RX5 46 "BowedPlate$State" "fallen" "I", Cond.fieldLink RX5 49 "BowedPlate$State" "strokes" "I", Cond.fieldLink RX5 52 "BowedPlate$State" "mutes" "I"]
def wsX8_keep_r2 : List Cond := [Cond.methodLink RX5 67 yX4_copyFrom, Cond.instanceMethod yX4_copyFrom, Cond.selects RX4 yX4_copyFrom yX4_copyFrom, Cond.initialized RX4, Cond.code yX4_copyFrom cX4_copyFrom 2 none, Cond.fieldLink RX4 7 "BowedPlate$Piece" "size" "I", Cond.methodLink RX4 36 yX4_appendAll, Cond.instanceMethod yX4_appendAll, Cond.selects RX4 yX4_appendAll yX4_appendAll, Cond.code yX4_appendAll cX4_appendAll 3 none, Cond.fieldLink RX4 22 "BowedPlate$Piece" "sides" "[I", Cond.fieldLink RX4 26 "BowedPlate$Piece" "alongs" "[I", Cond.fieldLink RX4 29 "BowedPlate$Piece" "strokes" "[I", Cond.methodLink RX4 32 yX4_append, Cond.instanceMethod yX4_append, Cond.selects RX4 yX4_append yX4_append, Cond.code yX4_append cX4_append 4 none, Cond.fieldLink RX4 19 "BowedPlate$Piece" "limit" "I", Cond.methodLink RX8 87 yX5_allGrains, Cond.instanceMethod yX5_allGrains, Cond.selects RX5 yX5_allGrains yX5_allGrains, Cond.code yX5_allGrains cX5_allGrains 3 (some .int)]
def wsX8_keep : List Cond := .code yX8_keep cX8_keep 1 (some .int) :: ((wsX8_keep_r1 ++ wsX8_keep_r2) ++ wsX80 ++ wsX50 ++ wsX40)
def wsX8_restore_r1 : List Cond := [Cond.fieldLink RX8 63 "BowedPlate" "hasSnapshot" "Z", Cond.fieldLink RX8 56 "BowedPlate" "history" "LBowedPlate$History;", Cond.fieldLink RX8 19 "BowedPlate" "now" "LBowedPlate$State;", Cond.fieldLink RX8 60 "BowedPlate" "snapshot" "LBowedPlate$State;", Cond.methodLink RX8 71 yX2_record, Cond.instanceMethod yX2_record, Cond.selects RX2 yX2_record yX2_record, Cond.initialized RX2, Cond.code yX2_record cX2_record 3 none, Cond.fieldLink RX2 21 "BowedPlate$History" "held" "I", Cond.fieldLink RX2 17 "BowedPlate$History" "oldest" "I", Cond.fieldLink RX2 11 "BowedPlate$History" "states" "[LBowedPlate$State;", Cond.methodLink RX2 25 yX5_copyFrom, Cond.instanceMethod yX5_copyFrom, Cond.selects RX5 yX5_copyFrom yX5_copyFrom, Cond.initialized RX5, Cond.code yX5_copyFrom cX5_copyFrom 2 none, Cond.fieldLink RX5 9 "BowedPlate$State" "grains" "[I", Cond.methodLink RX5 61 arraycopyName, Cond.native arraycopyName, Cond.static arraycopyName, Cond.initialized "java/lang/System", Cond.fieldLink RX5 15 "BowedPlate$State" "clampColumns" "[I", Cond.fieldLink RX5 18 "BowedPlate$State" "clampRows" "[I"]
def wsX8_restore_r2 : List Cond := [Cond.fieldLink RX5 21 "BowedPlate$State" "clamps" "I", Cond.fieldLink RX5 25 "BowedPlate$State" "settings" "[I", Cond.fieldLink RX5 33 "BowedPlate$State" "piece" "LBowedPlate$Piece;", Cond.fieldLink RX5 37 "BowedPlate$State" "lastWay" "I", Cond.fieldLink RX5 40 "BowedPlate$State" "strewn" "I", Cond.fieldLink RX5 43 "BowedPlate$State" "swept" "I", Cond.fieldLink RX5 46 "BowedPlate$State" "fallen" "I", Cond.fieldLink RX5 49 "BowedPlate$State" "strokes" "I", Cond.fieldLink RX5 52 "BowedPlate$State" "mutes" "I", Cond.methodLink RX5 67 yX4_copyFrom, Cond.instanceMethod yX4_copyFrom, Cond.selects RX4 yX4_copyFrom yX4_copyFrom, Cond.initialized RX4, Cond.code yX4_copyFrom cX4_copyFrom 2 none, Cond.fieldLink RX4 7 "BowedPlate$Piece" "size" "I", Cond.methodLink RX4 36 yX4_appendAll, Cond.instanceMethod yX4_appendAll, Cond.selects RX4 yX4_appendAll yX4_appendAll, Cond.code yX4_appendAll cX4_appendAll 3 none, Cond.fieldLink RX4 22 "BowedPlate$Piece" "sides" "[I", Cond.fieldLink RX4 26 "BowedPlate$Piece" "alongs" "[I", Cond.fieldLink RX4 29 "BowedPlate$Piece" "strokes" "[I", Cond.methodLink RX4 32 yX4_append, Cond.instanceMethod yX4_append]
def wsX8_restore_r3 : List Cond := [Cond.selects RX4 yX4_append yX4_append, Cond.code yX4_append cX4_append 4 none, Cond.fieldLink RX4 19 "BowedPlate$Piece" "limit" "I", Cond.methodLink RX8 184 yX5_copyFrom, Cond.methodLink RX8 87 yX5_allGrains, Cond.instanceMethod yX5_allGrains, Cond.selects RX5 yX5_allGrains yX5_allGrains, Cond.code yX5_allGrains cX5_allGrains 3 (some .int)]
def wsX8_restore : List Cond := .code yX8_restore cX8_restore 1 (some .int) :: ((wsX8_restore_r1 ++ (wsX8_restore_r2 ++ wsX8_restore_r3)) ++ wsX80 ++ wsX20 ++ wsX50 ++ wsX40)
def wsX8_asNumber : List Cond := .code yX8_asNumber cX8_asNumber 1 (some .int) :: ([])
def wsX8_orNone : List Cond := .code yX8_orNone cX8_orNone 1 (some .int) :: ([])
def wsX8_place_r1 : List Cond := [Cond.fieldLink RX8 19 "BowedPlate" "now" "LBowedPlate$State;", Cond.fieldLink RX8 12 "BowedPlate" "ways" "LBowedPlate$Ways;", Cond.fieldLink RX8 35 "BowedPlate" "figure" "LBowedPlate$Figure;", Cond.methodLink RX8 67 yX8_isPlace, Cond.static yX8_isPlace, Cond.initialized RX8, Cond.code yX8_isPlace cX8_isPlace 2 (some .boolean), Cond.methodLink RX8 75 yX8_placeOf, Cond.static yX8_placeOf, Cond.code yX8_placeOf cX8_placeOf 2 (some .int), Cond.methodLink RX8 190 yX8_isWay, Cond.static yX8_isWay, Cond.code yX8_isWay cX8_isWay 1 (some .boolean), Cond.methodLink RX8 193 yX7_swingAt, Cond.instanceMethod yX7_swingAt, Cond.selects RX7 yX7_swingAt yX7_swingAt, Cond.initialized RX7, Cond.code yX7_swingAt cX7_swingAt 8 (some .int), Cond.fieldLink RX7 9 "BowedPlate$Ways" "lesser" "[I", Cond.fieldLink RX7 15 "BowedPlate$Ways" "greater" "[I", Cond.fieldLink RX7 21 "BowedPlate$Ways" "heights" "[I", Cond.fieldLink RX7 18 "BowedPlate$Ways" "sign" "[I", Cond.methodLink RX7 44 Lib.Math.abs.name, Cond.static Lib.Math.abs.name]
def wsX8_place_r2 : List Cond := [Cond.initialized "java/lang/Math", Cond.code Lib.Math.abs.name Lib.Math.abs.code 1 (some .int), Cond.methodLink RX8 197 yX1_isStill, Cond.instanceMethod yX1_isStill, Cond.selects RX1 yX1_isStill yX1_isStill, Cond.initialized RX1, Cond.code yX1_isStill cX1_isStill 4 (some .boolean), Cond.fieldLink RX1 23 "BowedPlate$Figure" "ways" "LBowedPlate$Ways;", Cond.fieldLink RX1 27 "BowedPlate$Figure" "now" "LBowedPlate$State;", Cond.methodLink RX1 31 yX7_swingAt, Cond.methodLink RX8 201 yX8_asNumber, Cond.static yX8_asNumber, Cond.code yX8_asNumber cX8_asNumber 1 (some .int), Cond.methodLink RX8 101 yX5_clampOn, Cond.instanceMethod yX5_clampOn, Cond.selects RX5 yX5_clampOn yX5_clampOn, Cond.initialized RX5, Cond.code yX5_clampOn cX5_clampOn 4 (some .int), Cond.fieldLink RX5 21 "BowedPlate$State" "clamps" "I", Cond.fieldLink RX5 15 "BowedPlate$State" "clampColumns" "[I", Cond.fieldLink RX5 18 "BowedPlate$State" "clampRows" "[I", Cond.methodLink RX8 205 yX8_orNone, Cond.static yX8_orNone, Cond.code yX8_orNone cX8_orNone 1 (some .int)]
def wsX8_place : List Cond := .code yX8_place cX8_place 4 (some .int) :: ((wsX8_place_r1 ++ wsX8_place_r2) ++ wsX80 ++ wsX50 ++ wsX70 ++ wsX10)
def wsX8_way_r1 : List Cond := [Cond.fieldLink RX8 12 "BowedPlate" "ways" "LBowedPlate$Ways;", Cond.fieldLink RX8 35 "BowedPlate" "figure" "LBowedPlate$Figure;", Cond.fieldLink RX8 28 "BowedPlate" "choice" "LBowedPlate$Choice;", Cond.methodLink RX8 190 yX8_isWay, Cond.static yX8_isWay, Cond.initialized RX8, Cond.code yX8_isWay cX8_isWay 1 (some .boolean), Cond.methodLink RX8 217 yX7_noteOf, Cond.instanceMethod yX7_noteOf, Cond.selects RX7 yX7_noteOf yX7_noteOf, Cond.initialized RX7, Cond.code yX7_noteOf cX7_noteOf 2 (some .int), Cond.fieldLink RX7 9 "BowedPlate$Ways" "lesser" "[I", Cond.fieldLink RX7 15 "BowedPlate$Ways" "greater" "[I", Cond.fieldLink RX7 18 "BowedPlate$Ways" "sign" "[I", Cond.methodLink RX8 220 yX1_stillPlaces, Cond.instanceMethod yX1_stillPlaces, Cond.selects RX1 yX1_stillPlaces yX1_stillPlaces, Cond.initialized RX1, Cond.code yX1_stillPlaces cX1_stillPlaces 4 (some .int), Cond.static yX8_columnOf, Cond.code yX8_columnOf cX8_columnOf 1 (some .int), Cond.static yX8_rowOf, Cond.code yX8_rowOf cX8_rowOf 1 (some .int)]
def wsX8_way_r2 : List Cond := [Cond.methodLink RX1 49 yX1_isStill, Cond.instanceMethod yX1_isStill, Cond.selects RX1 yX1_isStill yX1_isStill, Cond.code yX1_isStill cX1_isStill 4 (some .boolean), Cond.fieldLink RX1 23 "BowedPlate$Figure" "ways" "LBowedPlate$Ways;", Cond.fieldLink RX1 27 "BowedPlate$Figure" "now" "LBowedPlate$State;", Cond.methodLink RX1 31 yX7_swingAt, Cond.instanceMethod yX7_swingAt, Cond.selects RX7 yX7_swingAt yX7_swingAt, Cond.code yX7_swingAt cX7_swingAt 8 (some .int), Cond.fieldLink RX7 21 "BowedPlate$Ways" "heights" "[I", Cond.methodLink RX7 44 Lib.Math.abs.name, Cond.static Lib.Math.abs.name, Cond.initialized "java/lang/Math", Cond.code Lib.Math.abs.name Lib.Math.abs.code 1 (some .int), Cond.static yX8_isPlace, Cond.code yX8_isPlace cX8_isPlace 2 (some .boolean), Cond.methodLink RX8 223 yX1_lines, Cond.instanceMethod yX1_lines, Cond.selects RX1 yX1_lines yX1_lines, Cond.code yX1_lines cX1_lines 4 (some .int), Cond.fieldLink RX1 9 "BowedPlate$Figure" "isOpen" "[Z", Cond.methodLink RX1 56 yX1_closeLine, Cond.instanceMethod yX1_closeLine]
def wsX8_way_r3 : List Cond := [Cond.selects RX1 yX1_closeLine yX1_closeLine, Cond.code yX1_closeLine cX1_closeLine 5 none, Cond.fieldLink RX1 19 "BowedPlate$Figure" "reaches" "I", Cond.fieldLink RX1 15 "BowedPlate$Figure" "reached" "[I", Cond.methodLink RX1 60 yX1_reach, Cond.instanceMethod yX1_reach, Cond.selects RX1 yX1_reach yX1_reach, Cond.code yX1_reach cX1_reach 3 none, Cond.static yX8_placeOf, Cond.code yX8_placeOf cX8_placeOf 2 (some .int), Cond.methodLink RX8 226 yX1_grainsOnLines, Cond.instanceMethod yX1_grainsOnLines, Cond.selects RX1 yX1_grainsOnLines yX1_grainsOnLines, Cond.code yX1_grainsOnLines cX1_grainsOnLines 4 (some .int), Cond.methodLink RX8 229 yX0_clampsAllow, Cond.instanceMethod yX0_clampsAllow, Cond.selects RX0 yX0_clampsAllow yX0_clampsAllow, Cond.initialized RX0, Cond.code yX0_clampsAllow cX0_clampsAllow 4 (some .boolean), Cond.fieldLink RX0 27 "BowedPlate$Choice" "now" "LBowedPlate$State;", Cond.fieldLink RX0 23 "BowedPlate$Choice" "ways" "LBowedPlate$Ways;", Cond.methodLink RX0 42 yX7_swingAt, Cond.methodLink RX8 201 yX8_asNumber, Cond.static yX8_asNumber]
def wsX8_way_r4 : List Cond := [Cond.code yX8_asNumber cX8_asNumber 1 (some .int)]
def wsX8_way : List Cond := .code yX8_way cX8_way 3 (some .int) :: ((wsX8_way_r1 ++ (wsX8_way_r2 ++ (wsX8_way_r3 ++ wsX8_way_r4))) ++ wsX80 ++ wsX70 ++ wsX10 ++ wsX50 ++ wsX00)
def wsX8_swing : List Cond := .code yX8_swing cX8_swing 4 (some .int) :: ([.fieldLink RX8 12 "BowedPlate" "ways" "LBowedPlate$Ways;", .methodLink RX8 190 yX8_isWay, .static yX8_isWay, .initialized RX8, .code yX8_isWay cX8_isWay 1 (some .boolean), .methodLink RX8 67 yX8_isPlace, .static yX8_isPlace, .code yX8_isPlace cX8_isPlace 2 (some .boolean), .methodLink RX8 193 yX7_swingAt, .instanceMethod yX7_swingAt, .selects RX7 yX7_swingAt yX7_swingAt, .initialized RX7, .code yX7_swingAt cX7_swingAt 8 (some .int), .fieldLink RX7 9 "BowedPlate$Ways" "lesser" "[I", .fieldLink RX7 15 "BowedPlate$Ways" "greater" "[I", .fieldLink RX7 21 "BowedPlate$Ways" "heights" "[I", .fieldLink RX7 18 "BowedPlate$Ways" "sign" "[I", .methodLink RX7 44 Lib.Math.abs.name, .static Lib.Math.abs.name, .initialized "java/lang/Math", .code Lib.Math.abs.name Lib.Math.abs.code 1 (some .int)] ++ wsX80 ++ wsX70)
def wsX8_sounds_r1 : List Cond := [Cond.fieldLink RX8 28 "BowedPlate" "choice" "LBowedPlate$Choice;", Cond.methodLink RX8 126 yX8_isBow, Cond.static yX8_isBow, Cond.initialized RX8, Cond.code yX8_isBow cX8_isBow 2 (some .boolean), Cond.methodLink RX8 256 yX8_isLine, Cond.static yX8_isLine, Cond.code yX8_isLine cX8_isLine 1 (some .boolean), Cond.methodLink RX8 232 yX0_wayFor, Cond.instanceMethod yX0_wayFor, Cond.selects RX0 yX0_wayFor yX0_wayFor, Cond.initialized RX0, Cond.code yX0_wayFor cX0_wayFor 4 (some .int), Cond.methodLink RX0 54 yX0_bowAllows, Cond.instanceMethod yX0_bowAllows, Cond.selects RX0 yX0_bowAllows yX0_bowAllows, Cond.code yX0_bowAllows cX0_bowAllows 4 (some .boolean), Cond.fieldLink RX0 27 "BowedPlate$Choice" "now" "LBowedPlate$State;", Cond.methodLink RX0 51 yX0_swingAtBow, Cond.instanceMethod yX0_swingAtBow, Cond.selects RX0 yX0_swingAtBow yX0_swingAtBow, Cond.code yX0_swingAtBow cX0_swingAtBow 4 (some .int), Cond.fieldLink RX0 23 "BowedPlate$Choice" "ways" "LBowedPlate$Ways;", Cond.methodLink RX0 42 yX7_swingAt]
def wsX8_sounds_r2 : List Cond := [Cond.instanceMethod yX7_swingAt, Cond.selects RX7 yX7_swingAt yX7_swingAt, Cond.initialized RX7, Cond.code yX7_swingAt cX7_swingAt 8 (some .int), Cond.fieldLink RX7 9 "BowedPlate$Ways" "lesser" "[I", Cond.fieldLink RX7 15 "BowedPlate$Ways" "greater" "[I", Cond.fieldLink RX7 21 "BowedPlate$Ways" "heights" "[I", Cond.fieldLink RX7 18 "BowedPlate$Ways" "sign" "[I", Cond.methodLink RX7 44 Lib.Math.abs.name, Cond.static Lib.Math.abs.name, Cond.initialized "java/lang/Math", Cond.code Lib.Math.abs.name Lib.Math.abs.code 1 (some .int), Cond.static yX8_isWay, Cond.code yX8_isWay cX8_isWay 1 (some .boolean), Cond.static yX8_isPlace, Cond.code yX8_isPlace cX8_isPlace 2 (some .boolean), Cond.methodLink RX0 58 yX0_clampsAllow, Cond.instanceMethod yX0_clampsAllow, Cond.selects RX0 yX0_clampsAllow yX0_clampsAllow, Cond.code yX0_clampsAllow cX0_clampsAllow 4 (some .boolean), Cond.methodLink RX8 205 yX8_orNone, Cond.static yX8_orNone, Cond.code yX8_orNone cX8_orNone 1 (some .int)]
def wsX8_sounds : List Cond := .code yX8_sounds cX8_sounds 3 (some .int) :: ((wsX8_sounds_r1 ++ wsX8_sounds_r2) ++ wsX80 ++ wsX00 ++ wsX50 ++ wsX70)
def wsX8_why_r1 : List Cond := [Cond.fieldLink RX8 28 "BowedPlate" "choice" "LBowedPlate$Choice;", Cond.methodLink RX8 190 yX8_isWay, Cond.static yX8_isWay, Cond.initialized RX8, Cond.code yX8_isWay cX8_isWay 1 (some .boolean), Cond.methodLink RX8 126 yX8_isBow, Cond.static yX8_isBow, Cond.code yX8_isBow cX8_isBow 2 (some .boolean), Cond.methodLink RX8 256 yX8_isLine, Cond.static yX8_isLine, Cond.code yX8_isLine cX8_isLine 1 (some .boolean), Cond.methodLink RX8 235 yX0_reasonOf, Cond.instanceMethod yX0_reasonOf, Cond.selects RX0 yX0_reasonOf yX0_reasonOf, Cond.initialized RX0, Cond.code yX0_reasonOf cX0_reasonOf 4 (some .int), Cond.methodLink RX0 58 yX0_clampsAllow, Cond.instanceMethod yX0_clampsAllow, Cond.selects RX0 yX0_clampsAllow yX0_clampsAllow, Cond.code yX0_clampsAllow cX0_clampsAllow 4 (some .boolean), Cond.fieldLink RX0 27 "BowedPlate$Choice" "now" "LBowedPlate$State;", Cond.fieldLink RX0 23 "BowedPlate$Choice" "ways" "LBowedPlate$Ways;", Cond.methodLink RX0 42 yX7_swingAt, Cond.instanceMethod yX7_swingAt]
def wsX8_why_r2 : List Cond := [Cond.selects RX7 yX7_swingAt yX7_swingAt, Cond.initialized RX7, Cond.code yX7_swingAt cX7_swingAt 8 (some .int), Cond.fieldLink RX7 9 "BowedPlate$Ways" "lesser" "[I", Cond.fieldLink RX7 15 "BowedPlate$Ways" "greater" "[I", Cond.fieldLink RX7 21 "BowedPlate$Ways" "heights" "[I", Cond.fieldLink RX7 18 "BowedPlate$Ways" "sign" "[I", Cond.methodLink RX7 44 Lib.Math.abs.name, Cond.static Lib.Math.abs.name, Cond.initialized "java/lang/Math", Cond.code Lib.Math.abs.name Lib.Math.abs.code 1 (some .int), Cond.static yX8_isPlace, Cond.code yX8_isPlace cX8_isPlace 2 (some .boolean), Cond.methodLink RX0 54 yX0_bowAllows, Cond.instanceMethod yX0_bowAllows, Cond.selects RX0 yX0_bowAllows yX0_bowAllows, Cond.code yX0_bowAllows cX0_bowAllows 4 (some .boolean), Cond.methodLink RX0 51 yX0_swingAtBow, Cond.instanceMethod yX0_swingAtBow, Cond.selects RX0 yX0_swingAtBow yX0_swingAtBow, Cond.code yX0_swingAtBow cX0_swingAtBow 4 (some .int), Cond.methodLink RX0 62 yX0_wayFor, Cond.instanceMethod yX0_wayFor, Cond.selects RX0 yX0_wayFor yX0_wayFor]
def wsX8_why_r3 : List Cond := [Cond.code yX0_wayFor cX0_wayFor 4 (some .int)]
def wsX8_why : List Cond := .code yX8_why cX8_why 4 (some .int) :: ((wsX8_why_r1 ++ (wsX8_why_r2 ++ wsX8_why_r3)) ++ wsX80 ++ wsX00 ++ wsX50 ++ wsX70)
def wsX8_possible_r1 : List Cond := [Cond.fieldLink RX8 28 "BowedPlate" "choice" "LBowedPlate$Choice;", Cond.methodLink RX8 238 yX0_findPossible, Cond.instanceMethod yX0_findPossible, Cond.selects RX0 yX0_findPossible yX0_findPossible, Cond.initialized RX0, Cond.code yX0_findPossible cX0_findPossible 2 none, Cond.fieldLink RX0 19 "BowedPlate$Choice" "isTaken" "[Z", Cond.fieldLink RX0 15 "BowedPlate$Choice" "possibleWays" "I", Cond.fieldLink RX0 9 "BowedPlate$Choice" "possibleWay" "[I", Cond.methodLink RX0 58 yX0_clampsAllow, Cond.instanceMethod yX0_clampsAllow, Cond.selects RX0 yX0_clampsAllow yX0_clampsAllow, Cond.code yX0_clampsAllow cX0_clampsAllow 4 (some .boolean), Cond.fieldLink RX0 27 "BowedPlate$Choice" "now" "LBowedPlate$State;", Cond.fieldLink RX0 23 "BowedPlate$Choice" "ways" "LBowedPlate$Ways;", Cond.methodLink RX0 42 yX7_swingAt, Cond.instanceMethod yX7_swingAt, Cond.selects RX7 yX7_swingAt yX7_swingAt, Cond.initialized RX7, Cond.code yX7_swingAt cX7_swingAt 8 (some .int), Cond.fieldLink RX7 9 "BowedPlate$Ways" "lesser" "[I", Cond.fieldLink RX7 15 "BowedPlate$Ways" "greater" "[I", Cond.fieldLink RX7 21 "BowedPlate$Ways" "heights" "[I", Cond.fieldLink RX7 18 "BowedPlate$Ways" "sign" "[I"]
def wsX8_possible_r2 : List Cond := [Cond.methodLink RX7 44 Lib.Math.abs.name, Cond.static Lib.Math.abs.name, Cond.initialized "java/lang/Math", Cond.code Lib.Math.abs.name Lib.Math.abs.code 1 (some .int), Cond.static yX8_isWay, Cond.initialized RX8, Cond.code yX8_isWay cX8_isWay 1 (some .boolean), Cond.static yX8_isPlace, Cond.code yX8_isPlace cX8_isPlace 2 (some .boolean), Cond.methodLink RX0 66 yX0_takesBow, Cond.instanceMethod yX0_takesBow, Cond.selects RX0 yX0_takesBow yX0_takesBow, Cond.code yX0_takesBow cX0_takesBow 4 (some .boolean), Cond.methodLink RX0 54 yX0_bowAllows, Cond.instanceMethod yX0_bowAllows, Cond.selects RX0 yX0_bowAllows yX0_bowAllows, Cond.code yX0_bowAllows cX0_bowAllows 4 (some .boolean), Cond.methodLink RX0 51 yX0_swingAtBow, Cond.instanceMethod yX0_swingAtBow, Cond.selects RX0 yX0_swingAtBow yX0_swingAtBow, Cond.code yX0_swingAtBow cX0_swingAtBow 4 (some .int)]
def wsX8_possible : List Cond := .code yX8_possible cX8_possible 2 (some .int) :: ((wsX8_possible_r1 ++ wsX8_possible_r2) ++ wsX80 ++ wsX00 ++ wsX50 ++ wsX70)
def wsX8_waiting_r1 : List Cond := [Cond.fieldLink RX8 19 "BowedPlate" "now" "LBowedPlate$State;", Cond.fieldLink RX8 28 "BowedPlate" "choice" "LBowedPlate$Choice;", Cond.methodLink RX8 232 yX0_wayFor, Cond.instanceMethod yX0_wayFor, Cond.selects RX0 yX0_wayFor yX0_wayFor, Cond.initialized RX0, Cond.code yX0_wayFor cX0_wayFor 4 (some .int), Cond.methodLink RX0 54 yX0_bowAllows, Cond.instanceMethod yX0_bowAllows, Cond.selects RX0 yX0_bowAllows yX0_bowAllows, Cond.code yX0_bowAllows cX0_bowAllows 4 (some .boolean), Cond.fieldLink RX0 27 "BowedPlate$Choice" "now" "LBowedPlate$State;", Cond.methodLink RX0 51 yX0_swingAtBow, Cond.instanceMethod yX0_swingAtBow, Cond.selects RX0 yX0_swingAtBow yX0_swingAtBow, Cond.code yX0_swingAtBow cX0_swingAtBow 4 (some .int), Cond.fieldLink RX0 23 "BowedPlate$Choice" "ways" "LBowedPlate$Ways;", Cond.methodLink RX0 42 yX7_swingAt, Cond.instanceMethod yX7_swingAt, Cond.selects RX7 yX7_swingAt yX7_swingAt, Cond.initialized RX7, Cond.code yX7_swingAt cX7_swingAt 8 (some .int), Cond.fieldLink RX7 9 "BowedPlate$Ways" "lesser" "[I", Cond.fieldLink RX7 15 "BowedPlate$Ways" "greater" "[I"]
def wsX8_waiting_r2 : List Cond := [Cond.fieldLink RX7 21 "BowedPlate$Ways" "heights" "[I", Cond.fieldLink RX7 18 "BowedPlate$Ways" "sign" "[I", Cond.methodLink RX7 44 Lib.Math.abs.name, Cond.static Lib.Math.abs.name, Cond.initialized "java/lang/Math", Cond.code Lib.Math.abs.name Lib.Math.abs.code 1 (some .int), Cond.static yX8_isWay, Cond.initialized RX8, Cond.code yX8_isWay cX8_isWay 1 (some .boolean), Cond.static yX8_isPlace, Cond.code yX8_isPlace cX8_isPlace 2 (some .boolean), Cond.methodLink RX0 58 yX0_clampsAllow, Cond.instanceMethod yX0_clampsAllow, Cond.selects RX0 yX0_clampsAllow yX0_clampsAllow, Cond.code yX0_clampsAllow cX0_clampsAllow 4 (some .boolean), Cond.methodLink RX8 205 yX8_orNone, Cond.static yX8_orNone, Cond.code yX8_orNone cX8_orNone 1 (some .int)]
def wsX8_waiting : List Cond := .code yX8_waiting cX8_waiting 3 (some .int) :: ((wsX8_waiting_r1 ++ wsX8_waiting_r2) ++ wsX80 ++ wsX50 ++ wsX40 ++ wsX00 ++ wsX70)
def wsX8_sand : List Cond := .code yX8_sand cX8_sand 5 (some .int) :: ([.fieldLink RX8 19 "BowedPlate" "now" "LBowedPlate$State;", .methodLink RX8 256 yX8_isLine, .static yX8_isLine, .initialized RX8, .code yX8_isLine cX8_isLine 1 (some .boolean), .methodLink RX8 75 yX8_placeOf, .static yX8_placeOf, .code yX8_placeOf cX8_placeOf 2 (some .int)] ++ wsX80 ++ wsX50)
def wsX8_count_r1 : List Cond := [Cond.fieldLink RX8 19 "BowedPlate" "now" "LBowedPlate$State;", Cond.fieldLink RX8 28 "BowedPlate" "choice" "LBowedPlate$Choice;", Cond.fieldLink RX8 56 "BowedPlate" "history" "LBowedPlate$History;", Cond.fieldLink RX8 49 "BowedPlate" "text" "LBowedPlate$Text;", Cond.methodLink RX8 87 yX5_allGrains, Cond.instanceMethod yX5_allGrains, Cond.selects RX5 yX5_allGrains yX5_allGrains, Cond.initialized RX5, Cond.code yX5_allGrains cX5_allGrains 3 (some .int), Cond.fieldLink RX5 9 "BowedPlate$State" "grains" "[I", Cond.methodLink RX8 205 yX8_orNone, Cond.static yX8_orNone, Cond.initialized RX8, Cond.code yX8_orNone cX8_orNone 1 (some .int), Cond.methodLink RX8 238 yX0_findPossible, Cond.instanceMethod yX0_findPossible, Cond.selects RX0 yX0_findPossible yX0_findPossible, Cond.initialized RX0, Cond.code yX0_findPossible cX0_findPossible 2 none, Cond.fieldLink RX0 19 "BowedPlate$Choice" "isTaken" "[Z", Cond.fieldLink RX0 15 "BowedPlate$Choice" "possibleWays" "I", Cond.fieldLink RX0 9 "BowedPlate$Choice" "possibleWay" "[I", Cond.methodLink RX0 58 yX0_clampsAllow, Cond.instanceMethod yX0_clampsAllow]
def wsX8_count_r2 : List Cond := [Cond.selects RX0 yX0_clampsAllow yX0_clampsAllow, Cond.code yX0_clampsAllow cX0_clampsAllow 4 (some .boolean), Cond.fieldLink RX0 27 "BowedPlate$Choice" "now" "LBowedPlate$State;", Cond.fieldLink RX0 23 "BowedPlate$Choice" "ways" "LBowedPlate$Ways;", Cond.methodLink RX0 42 yX7_swingAt, Cond.instanceMethod yX7_swingAt, Cond.selects RX7 yX7_swingAt yX7_swingAt, Cond.initialized RX7, Cond.code yX7_swingAt cX7_swingAt 8 (some .int), Cond.fieldLink RX7 9 "BowedPlate$Ways" "lesser" "[I", Cond.fieldLink RX7 15 "BowedPlate$Ways" "greater" "[I", Cond.fieldLink RX7 21 "BowedPlate$Ways" "heights" "[I", Cond.fieldLink RX7 18 "BowedPlate$Ways" "sign" "[I", Cond.methodLink RX7 44 Lib.Math.abs.name, Cond.static Lib.Math.abs.name, Cond.initialized "java/lang/Math", Cond.code Lib.Math.abs.name Lib.Math.abs.code 1 (some .int), Cond.static yX8_isWay, Cond.code yX8_isWay cX8_isWay 1 (some .boolean), Cond.static yX8_isPlace, Cond.code yX8_isPlace cX8_isPlace 2 (some .boolean), Cond.methodLink RX0 66 yX0_takesBow, Cond.instanceMethod yX0_takesBow, Cond.selects RX0 yX0_takesBow yX0_takesBow]
def wsX8_count_r3 : List Cond := [Cond.code yX0_takesBow cX0_takesBow 4 (some .boolean), Cond.methodLink RX0 54 yX0_bowAllows, Cond.instanceMethod yX0_bowAllows, Cond.selects RX0 yX0_bowAllows yX0_bowAllows, Cond.code yX0_bowAllows cX0_bowAllows 4 (some .boolean), Cond.methodLink RX0 51 yX0_swingAtBow, Cond.instanceMethod yX0_swingAtBow, Cond.selects RX0 yX0_swingAtBow yX0_swingAtBow, Cond.code yX0_swingAtBow cX0_swingAtBow 4 (some .int), Cond.methodLink RX8 267 yX5_mostGrains, Cond.instanceMethod yX5_mostGrains, Cond.selects RX5 yX5_mostGrains yX5_mostGrains, Cond.code yX5_mostGrains cX5_mostGrains 3 (some .int), Cond.methodLink RX5 71 Lib.Math.max.name, Cond.static Lib.Math.max.name, Cond.code Lib.Math.max.name Lib.Math.max.code 2 (some .int)]
def wsX8_count : List Cond := .code yX8_count cX8_count 2 (some .int) :: ((wsX8_count_r1 ++ (wsX8_count_r2 ++ wsX8_count_r3)) ++ wsX80 ++ wsX50 ++ wsX40 ++ wsX00 ++ wsX20 ++ wsX60 ++ wsX70)
def wsX8_clampAt : List Cond := .code yX8_clampAt cX8_clampAt 3 (some .int) :: ([.fieldLink RX8 19 "BowedPlate" "now" "LBowedPlate$State;", .methodLink RX8 110 yX8_isClamp, .instanceMethod yX8_isClamp, .selects RX8 yX8_isClamp yX8_isClamp, .initialized RX8, .code yX8_isClamp cX8_isClamp 2 (some .boolean)] ++ wsX80 ++ wsX50)
def wsX9_wave : List Cond := .code yX9_wave cX9_wave 3 (some .int) :: ([])
def wsX9_size : List Cond := .code yX9_size cX9_size 1 (some .int) :: ([])
def wsX9_findWays : List Cond := .code yX9_findWays cX9_findWays 8 none :: ([.fieldLink RX9 7 "BowedPlateModel" "low" "[I", .fieldLink RX9 13 "BowedPlateModel" "high" "[I", .fieldLink RX9 16 "BowedPlateModel" "minus" "[I", .fieldLink RX9 19 "BowedPlateModel" "swings" "[I", .methodLink RX9 47 yX9_wave, .static yX9_wave, .initialized RX9, .code yX9_wave cX9_wave 3 (some .int), .methodLink RX9 51 yX9_size, .static yX9_size, .code yX9_size cX9_size 1 (some .int)] ++ wsX90)
def wsX9_init_r1 : List Cond := [Cond.methodLink RX9 1 objectInit, Cond.instanceMethod objectInit, Cond.code objectInit ⟨#[0xb1]⟩ 1 none, Cond.arrayClass .int, Cond.fieldLink RX9 7 "BowedPlateModel" "low" "[I", Cond.fieldLink RX9 13 "BowedPlateModel" "high" "[I", Cond.fieldLink RX9 16 "BowedPlateModel" "minus" "[I", Cond.fieldLink RX9 19 "BowedPlateModel" "swings" "[I", Cond.fieldLink RX9 22 "BowedPlateModel" "s" "[I", Cond.fieldLink RX9 25 "BowedPlateModel" "before" "[I", Cond.fieldLink RX9 28 "BowedPlateModel" "kept" "[I", Cond.fieldLink RX9 31 "BowedPlateModel" "text" "[I", Cond.fieldLink RX9 34 "BowedPlateModel" "more" "[I", Cond.arrayClass .boolean, Cond.fieldLink RX9 37 "BowedPlateModel" "isMet" "[Z", Cond.fieldLink RX9 41 "BowedPlateModel" "row" "[I", Cond.methodLink RX9 44 yX9_findWays, Cond.instanceMethod yX9_findWays, Cond.selects RX9 yX9_findWays yX9_findWays, Cond.initialized RX9, Cond.code yX9_findWays cX9_findWays 8 none, Cond.methodLink RX9 47 yX9_wave, Cond.static yX9_wave, Cond.code yX9_wave cX9_wave 3 (some .int)]
def wsX9_init_r2 : List Cond := [Cond.methodLink RX9 51 yX9_size, Cond.static yX9_size, Cond.code yX9_size cX9_size 1 (some .int)]
def wsX9_init : List Cond := .code yX9_init cX9_init 2 none :: ((wsX9_init_r1 ++ wsX9_init_r2) ++ wsX90)
def wsX9_in : List Cond := .code yX9_in cX9_in 3 (some .boolean) :: ([])
def wsX9_noteOf : List Cond := .code yX9_noteOf cX9_noteOf 2 (some .int) :: ([.fieldLink RX9 7 "BowedPlateModel" "low" "[I", .fieldLink RX9 13 "BowedPlateModel" "high" "[I", .fieldLink RX9 16 "BowedPlateModel" "minus" "[I"] ++ wsX90)
def wsX9_swingAt : List Cond := .code yX9_swingAt cX9_swingAt 3 (some .int) :: ([.fieldLink RX9 19 "BowedPlateModel" "swings" "[I"] ++ wsX90)
def wsX9_isOn : List Cond := .code yX9_isOn cX9_isOn 2 (some .boolean) :: ([.methodLink RX9 55 yX9_in, .static yX9_in, .initialized RX9, .code yX9_in cX9_in 3 (some .boolean)])
def wsX9_isWay : List Cond := .code yX9_isWay cX9_isWay 1 (some .boolean) :: ([.methodLink RX9 55 yX9_in, .static yX9_in, .initialized RX9, .code yX9_in cX9_in 3 (some .boolean)])
def wsX9_isBow : List Cond := .code yX9_isBow cX9_isBow 2 (some .boolean) :: ([.methodLink RX9 55 yX9_in, .static yX9_in, .initialized RX9, .code yX9_in cX9_in 3 (some .boolean)])
def wsX9_know : List Cond := .code yX9_know cX9_know 2 none :: ([.fieldLink RX9 59 "BowedPlateModel" "known" "I", .fieldLink RX9 25 "BowedPlateModel" "before" "[I", .fieldLink RX9 22 "BowedPlateModel" "s" "[I"] ++ wsX90)
def wsX9_bowPlace : List Cond := .code yX9_bowPlace cX9_bowPlace 2 (some .int) :: ([])
def wsX9_isHeld : List Cond := .code yX9_isHeld cX9_isHeld 4 (some .boolean) :: ([.fieldLink RX9 22 "BowedPlateModel" "s" "[I", .methodLink RX9 63 yX9_swingAt, .instanceMethod yX9_swingAt, .selects RX9 yX9_swingAt yX9_swingAt, .initialized RX9, .code yX9_swingAt cX9_swingAt 3 (some .int), .fieldLink RX9 19 "BowedPlateModel" "swings" "[I"] ++ wsX90)
def wsX9_canSound : List Cond := .code yX9_canSound cX9_canSound 3 (some .boolean) :: ([.fieldLink RX9 22 "BowedPlateModel" "s" "[I", .methodLink RX9 66 yX9_isHeld, .instanceMethod yX9_isHeld, .selects RX9 yX9_isHeld yX9_isHeld, .initialized RX9, .code yX9_isHeld cX9_isHeld 4 (some .boolean), .methodLink RX9 63 yX9_swingAt, .instanceMethod yX9_swingAt, .selects RX9 yX9_swingAt yX9_swingAt, .code yX9_swingAt cX9_swingAt 3 (some .int), .fieldLink RX9 19 "BowedPlateModel" "swings" "[I"] ++ wsX90)
def wsX9_soundsAt : List Cond := .code yX9_soundsAt cX9_soundsAt 3 (some .int) :: ([.methodLink RX9 70 yX9_canSound, .instanceMethod yX9_canSound, .selects RX9 yX9_canSound yX9_canSound, .initialized RX9, .code yX9_canSound cX9_canSound 3 (some .boolean), .fieldLink RX9 22 "BowedPlateModel" "s" "[I", .methodLink RX9 66 yX9_isHeld, .instanceMethod yX9_isHeld, .selects RX9 yX9_isHeld yX9_isHeld, .code yX9_isHeld cX9_isHeld 4 (some .boolean), .methodLink RX9 63 yX9_swingAt, .instanceMethod yX9_swingAt, .selects RX9 yX9_swingAt yX9_swingAt, .code yX9_swingAt cX9_swingAt 3 (some .int), .fieldLink RX9 19 "BowedPlateModel" "swings" "[I"] ++ wsX90)
def wsX9_isPossible : List Cond := .code yX9_isPossible cX9_isPossible 4 (some .boolean) :: ([.methodLink RX9 74 yX9_bowPlace, .static yX9_bowPlace, .initialized RX9, .code yX9_bowPlace cX9_bowPlace 2 (some .int), .methodLink RX9 77 yX9_soundsAt, .instanceMethod yX9_soundsAt, .selects RX9 yX9_soundsAt yX9_soundsAt, .code yX9_soundsAt cX9_soundsAt 3 (some .int), .methodLink RX9 70 yX9_canSound, .instanceMethod yX9_canSound, .selects RX9 yX9_canSound yX9_canSound, .code yX9_canSound cX9_canSound 3 (some .boolean), .fieldLink RX9 22 "BowedPlateModel" "s" "[I", .methodLink RX9 66 yX9_isHeld, .instanceMethod yX9_isHeld, .selects RX9 yX9_isHeld yX9_isHeld, .code yX9_isHeld cX9_isHeld 4 (some .boolean), .methodLink RX9 63 yX9_swingAt, .instanceMethod yX9_swingAt, .selects RX9 yX9_swingAt yX9_swingAt, .code yX9_swingAt cX9_swingAt 3 (some .int), .fieldLink RX9 19 "BowedPlateModel" "swings" "[I"] ++ wsX90)
def wsX9_isEdge : List Cond := .code yX9_isEdge cX9_isEdge 3 (some .boolean) :: ([])
def wsX9_calmest : List Cond := .code yX9_calmest cX9_calmest 9 (some .int) :: ([.methodLink RX9 80 yX9_isOn, .static yX9_isOn, .initialized RX9, .code yX9_isOn cX9_isOn 2 (some .boolean), .methodLink RX9 55 yX9_in, .static yX9_in, .code yX9_in cX9_in 3 (some .boolean), .methodLink RX9 63 yX9_swingAt, .instanceMethod yX9_swingAt, .selects RX9 yX9_swingAt yX9_swingAt, .code yX9_swingAt cX9_swingAt 3 (some .int), .fieldLink RX9 19 "BowedPlateModel" "swings" "[I"] ++ wsX90)
def wsX9_stroke : List Cond := .code yX9_stroke cX9_stroke 6 none :: ([.fieldLink RX9 34 "BowedPlateModel" "more" "[I", .fieldLink RX9 22 "BowedPlateModel" "s" "[I", .methodLink RX9 63 yX9_swingAt, .instanceMethod yX9_swingAt, .selects RX9 yX9_swingAt yX9_swingAt, .initialized RX9, .code yX9_swingAt cX9_swingAt 3 (some .int), .fieldLink RX9 19 "BowedPlateModel" "swings" "[I", .methodLink RX9 83 yX9_isEdge, .static yX9_isEdge, .code yX9_isEdge cX9_isEdge 3 (some .boolean), .methodLink RX9 86 yX9_calmest, .instanceMethod yX9_calmest, .selects RX9 yX9_calmest yX9_calmest, .code yX9_calmest cX9_calmest 9 (some .int), .methodLink RX9 80 yX9_isOn, .static yX9_isOn, .code yX9_isOn cX9_isOn 2 (some .boolean), .methodLink RX9 55 yX9_in, .static yX9_in, .code yX9_in cX9_in 3 (some .boolean)] ++ wsX90)
def wsX9_allGrains : List Cond := .code yX9_allGrains cX9_allGrains 3 (some .int) :: ([.fieldLink RX9 22 "BowedPlateModel" "s" "[I"] ++ wsX90)
def wsX9_strew : List Cond := .code yX9_strew cX9_strew 4 (some .int) :: ([.fieldLink RX9 22 "BowedPlateModel" "s" "[I", .methodLink RX9 80 yX9_isOn, .static yX9_isOn, .initialized RX9, .code yX9_isOn cX9_isOn 2 (some .boolean), .methodLink RX9 55 yX9_in, .static yX9_in, .code yX9_in cX9_in 3 (some .boolean), .methodLink RX9 89 yX9_know, .instanceMethod yX9_know, .selects RX9 yX9_know yX9_know, .code yX9_know cX9_know 2 none, .fieldLink RX9 59 "BowedPlateModel" "known" "I", .fieldLink RX9 25 "BowedPlateModel" "before" "[I"] ++ wsX90)
def wsX9_sweep : List Cond := .code yX9_sweep cX9_sweep 4 (some .int) :: ([.fieldLink RX9 22 "BowedPlateModel" "s" "[I", .methodLink RX9 55 yX9_in, .static yX9_in, .initialized RX9, .code yX9_in cX9_in 3 (some .boolean), .methodLink RX9 89 yX9_know, .instanceMethod yX9_know, .selects RX9 yX9_know yX9_know, .code yX9_know cX9_know 2 none, .fieldLink RX9 59 "BowedPlateModel" "known" "I", .fieldLink RX9 25 "BowedPlateModel" "before" "[I", .methodLink RX9 92 yX9_allGrains, .instanceMethod yX9_allGrains, .selects RX9 yX9_allGrains yX9_allGrains, .code yX9_allGrains cX9_allGrains 3 (some .int)] ++ wsX90)
def wsX9_clampOn : List Cond := .code yX9_clampOn cX9_clampOn 3 (some .int) :: ([.fieldLink RX9 22 "BowedPlateModel" "s" "[I"] ++ wsX90)
def wsX9_clamp : List Cond := .code yX9_clamp cX9_clamp 3 (some .int) :: ([.fieldLink RX9 22 "BowedPlateModel" "s" "[I", .methodLink RX9 80 yX9_isOn, .static yX9_isOn, .initialized RX9, .code yX9_isOn cX9_isOn 2 (some .boolean), .methodLink RX9 55 yX9_in, .static yX9_in, .code yX9_in cX9_in 3 (some .boolean), .methodLink RX9 96 yX9_clampOn, .instanceMethod yX9_clampOn, .selects RX9 yX9_clampOn yX9_clampOn, .code yX9_clampOn cX9_clampOn 3 (some .int), .methodLink RX9 89 yX9_know, .instanceMethod yX9_know, .selects RX9 yX9_know yX9_know, .code yX9_know cX9_know 2 none, .fieldLink RX9 59 "BowedPlateModel" "known" "I", .fieldLink RX9 25 "BowedPlateModel" "before" "[I"] ++ wsX90)
def wsX9_unclamp : List Cond := .code yX9_unclamp cX9_unclamp 3 (some .int) :: ([.fieldLink RX9 22 "BowedPlateModel" "s" "[I", .methodLink RX9 55 yX9_in, .static yX9_in, .initialized RX9, .code yX9_in cX9_in 3 (some .boolean), .methodLink RX9 89 yX9_know, .instanceMethod yX9_know, .selects RX9 yX9_know yX9_know, .code yX9_know cX9_know 2 none, .fieldLink RX9 59 "BowedPlateModel" "known" "I", .fieldLink RX9 25 "BowedPlateModel" "before" "[I"] ++ wsX90)
def wsX9_set : List Cond := .code yX9_set cX9_set 6 (some .int) :: ([.fieldLink RX9 22 "BowedPlateModel" "s" "[I", .methodLink RX9 55 yX9_in, .static yX9_in, .initialized RX9, .code yX9_in cX9_in 3 (some .boolean), .methodLink RX9 89 yX9_know, .instanceMethod yX9_know, .selects RX9 yX9_know yX9_know, .code yX9_know cX9_know 2 none, .fieldLink RX9 59 "BowedPlateModel" "known" "I", .fieldLink RX9 25 "BowedPlateModel" "before" "[I"] ++ wsX90)
def wsX9_waits : List Cond := .code yX9_waits cX9_waits 5 (some .int) :: ([.fieldLink RX9 22 "BowedPlateModel" "s" "[I"] ++ wsX90)
def wsX9_bow : List Cond := .code yX9_bow cX9_bow 4 (some .int) :: ([.fieldLink RX9 22 "BowedPlateModel" "s" "[I", .methodLink RX9 99 yX9_isBow, .static yX9_isBow, .initialized RX9, .code yX9_isBow cX9_isBow 2 (some .boolean), .methodLink RX9 55 yX9_in, .static yX9_in, .code yX9_in cX9_in 3 (some .boolean), .methodLink RX9 89 yX9_know, .instanceMethod yX9_know, .selects RX9 yX9_know yX9_know, .code yX9_know cX9_know 2 none, .fieldLink RX9 59 "BowedPlateModel" "known" "I", .fieldLink RX9 25 "BowedPlateModel" "before" "[I", .methodLink RX9 102 yX9_waits, .instanceMethod yX9_waits, .selects RX9 yX9_waits yX9_waits, .code yX9_waits cX9_waits 5 (some .int)] ++ wsX90)
def wsX9_strikeAt : List Cond := .code yX9_strikeAt cX9_strikeAt 3 none :: ([.fieldLink RX9 22 "BowedPlateModel" "s" "[I"] ++ wsX90)
def wsX9_strike : List Cond := .code yX9_strike cX9_strike 4 (some .int) :: ([.fieldLink RX9 22 "BowedPlateModel" "s" "[I", .methodLink RX9 55 yX9_in, .static yX9_in, .initialized RX9, .code yX9_in cX9_in 3 (some .boolean), .methodLink RX9 89 yX9_know, .instanceMethod yX9_know, .selects RX9 yX9_know yX9_know, .code yX9_know cX9_know 2 none, .fieldLink RX9 59 "BowedPlateModel" "known" "I", .fieldLink RX9 25 "BowedPlateModel" "before" "[I", .methodLink RX9 106 yX9_strikeAt, .instanceMethod yX9_strikeAt, .selects RX9 yX9_strikeAt yX9_strikeAt, .code yX9_strikeAt cX9_strikeAt 3 none] ++ wsX90)
def wsX9_play_r1 : List Cond := [Cond.fieldLink RX9 22 "BowedPlateModel" "s" "[I", Cond.methodLink RX9 55 yX9_in, Cond.static yX9_in, Cond.initialized RX9, Cond.code yX9_in cX9_in 3 (some .boolean), Cond.methodLink RX9 89 yX9_know, Cond.instanceMethod yX9_know, Cond.selects RX9 yX9_know yX9_know, Cond.code yX9_know cX9_know 2 none, Cond.fieldLink RX9 59 "BowedPlateModel" "known" "I", Cond.fieldLink RX9 25 "BowedPlateModel" "before" "[I", Cond.methodLink RX9 74 yX9_bowPlace, Cond.static yX9_bowPlace, Cond.code yX9_bowPlace cX9_bowPlace 2 (some .int), Cond.methodLink RX9 77 yX9_soundsAt, Cond.instanceMethod yX9_soundsAt, Cond.selects RX9 yX9_soundsAt yX9_soundsAt, Cond.code yX9_soundsAt cX9_soundsAt 3 (some .int), Cond.methodLink RX9 70 yX9_canSound, Cond.instanceMethod yX9_canSound, Cond.selects RX9 yX9_canSound yX9_canSound, Cond.code yX9_canSound cX9_canSound 3 (some .boolean), Cond.methodLink RX9 66 yX9_isHeld, Cond.instanceMethod yX9_isHeld]
def wsX9_play_r2 : List Cond := [Cond.selects RX9 yX9_isHeld yX9_isHeld, Cond.code yX9_isHeld cX9_isHeld 4 (some .boolean), Cond.methodLink RX9 63 yX9_swingAt, Cond.instanceMethod yX9_swingAt, Cond.selects RX9 yX9_swingAt yX9_swingAt, Cond.code yX9_swingAt cX9_swingAt 3 (some .int), Cond.fieldLink RX9 19 "BowedPlateModel" "swings" "[I", Cond.methodLink RX9 106 yX9_strikeAt, Cond.instanceMethod yX9_strikeAt, Cond.selects RX9 yX9_strikeAt yX9_strikeAt, Cond.code yX9_strikeAt cX9_strikeAt 3 none, Cond.methodLink RX9 110 yX9_stroke, Cond.instanceMethod yX9_stroke, Cond.selects RX9 yX9_stroke yX9_stroke, Cond.code yX9_stroke cX9_stroke 6 none, Cond.fieldLink RX9 34 "BowedPlateModel" "more" "[I", Cond.methodLink RX9 83 yX9_isEdge, Cond.static yX9_isEdge, Cond.code yX9_isEdge cX9_isEdge 3 (some .boolean), Cond.methodLink RX9 86 yX9_calmest, Cond.instanceMethod yX9_calmest, Cond.selects RX9 yX9_calmest yX9_calmest, Cond.code yX9_calmest cX9_calmest 9 (some .int), Cond.methodLink RX9 80 yX9_isOn]
def wsX9_play_r3 : List Cond := [Cond.static yX9_isOn, Cond.code yX9_isOn cX9_isOn 2 (some .boolean)]
def wsX9_play : List Cond := .code yX9_play cX9_play 7 (some .int) :: ((wsX9_play_r1 ++ (wsX9_play_r2 ++ wsX9_play_r3)) ++ wsX90)
def wsX9_type : List Cond := .code yX9_type cX9_type 2 (some .int) :: ([.fieldLink RX9 113 "BowedPlateModel" "typed" "I", .fieldLink RX9 31 "BowedPlateModel" "text" "[I"] ++ wsX90)
def wsX9_clearText : List Cond := .code yX9_clearText cX9_clearText 2 (some .int) :: ([.fieldLink RX9 113 "BowedPlateModel" "typed" "I"] ++ wsX90)
def wsX9_sign : List Cond := .code yX9_sign cX9_sign 4 (some .int) :: ([.fieldLink RX9 116 "BowedPlateModel" "at" "I", .fieldLink RX9 113 "BowedPlateModel" "typed" "I", .fieldLink RX9 31 "BowedPlateModel" "text" "[I", .fieldLink RX9 119 "BowedPlateModel" "isWrong" "Z", .methodLink RX9 55 yX9_in, .static yX9_in, .initialized RX9, .code yX9_in cX9_in 3 (some .boolean)] ++ wsX90)
def wsX9_number : List Cond := .code yX9_number cX9_number 5 (some .int) :: ([.fieldLink RX9 119 "BowedPlateModel" "isWrong" "Z", .fieldLink RX9 116 "BowedPlateModel" "at" "I", .fieldLink RX9 113 "BowedPlateModel" "typed" "I", .fieldLink RX9 31 "BowedPlateModel" "text" "[I", .methodLink RX9 123 yX9_sign, .instanceMethod yX9_sign, .selects RX9 yX9_sign yX9_sign, .initialized RX9, .code yX9_sign cX9_sign 4 (some .int), .methodLink RX9 55 yX9_in, .static yX9_in, .code yX9_in cX9_in 3 (some .boolean)] ++ wsX90)
def wsX9_go : List Cond := .code yX9_go cX9_go 11 (some .int) :: ([.fieldLink RX9 116 "BowedPlateModel" "at" "I", .fieldLink RX9 119 "BowedPlateModel" "isWrong" "Z", .fieldLink RX9 113 "BowedPlateModel" "typed" "I", .fieldLink RX9 31 "BowedPlateModel" "text" "[I", .methodLink RX9 126 yX9_number, .instanceMethod yX9_number, .selects RX9 yX9_number yX9_number, .initialized RX9, .code yX9_number cX9_number 5 (some .int), .methodLink RX9 123 yX9_sign, .instanceMethod yX9_sign, .selects RX9 yX9_sign yX9_sign, .code yX9_sign cX9_sign 4 (some .int), .methodLink RX9 55 yX9_in, .static yX9_in, .code yX9_in cX9_in 3 (some .boolean), .methodLink RX9 102 yX9_waits, .instanceMethod yX9_waits, .selects RX9 yX9_waits yX9_waits, .code yX9_waits cX9_waits 5 (some .int), .fieldLink RX9 22 "BowedPlateModel" "s" "[I"] ++ wsX90)
def wsX9_bowAll_r1 : List Cond := [Cond.fieldLink RX9 119 "BowedPlateModel" "isWrong" "Z", Cond.fieldLink RX9 116 "BowedPlateModel" "at" "I", Cond.fieldLink RX9 22 "BowedPlateModel" "s" "[I", Cond.methodLink RX9 129 yX9_go, Cond.instanceMethod yX9_go, Cond.selects RX9 yX9_go yX9_go, Cond.initialized RX9, Cond.code yX9_go cX9_go 11 (some .int), Cond.fieldLink RX9 113 "BowedPlateModel" "typed" "I", Cond.fieldLink RX9 31 "BowedPlateModel" "text" "[I", Cond.methodLink RX9 126 yX9_number, Cond.instanceMethod yX9_number, Cond.selects RX9 yX9_number yX9_number, Cond.code yX9_number cX9_number 5 (some .int), Cond.methodLink RX9 123 yX9_sign, Cond.instanceMethod yX9_sign, Cond.selects RX9 yX9_sign yX9_sign, Cond.code yX9_sign cX9_sign 4 (some .int), Cond.methodLink RX9 55 yX9_in, Cond.static yX9_in, Cond.code yX9_in cX9_in 3 (some .boolean), Cond.methodLink RX9 102 yX9_waits, Cond.instanceMethod yX9_waits, Cond.selects RX9 yX9_waits yX9_waits]
def wsX9_bowAll_r2 : List Cond := [Cond.code yX9_waits cX9_waits 5 (some .int), Cond.methodLink RX9 89 yX9_know, Cond.instanceMethod yX9_know, Cond.selects RX9 yX9_know yX9_know, Cond.code yX9_know cX9_know 2 none, Cond.fieldLink RX9 59 "BowedPlateModel" "known" "I", Cond.fieldLink RX9 25 "BowedPlateModel" "before" "[I"]
def wsX9_bowAll : List Cond := .code yX9_bowAll cX9_bowAll 2 (some .int) :: ((wsX9_bowAll_r1 ++ wsX9_bowAll_r2) ++ wsX90)
def wsX9_undo : List Cond := .code yX9_undo cX9_undo 2 (some .int) :: ([.fieldLink RX9 59 "BowedPlateModel" "known" "I", .fieldLink RX9 22 "BowedPlateModel" "s" "[I", .fieldLink RX9 25 "BowedPlateModel" "before" "[I"] ++ wsX90)
def wsX9_keep : List Cond := .code yX9_keep cX9_keep 2 (some .int) :: ([.fieldLink RX9 28 "BowedPlateModel" "kept" "[I", .fieldLink RX9 22 "BowedPlateModel" "s" "[I", .fieldLink RX9 133 "BowedPlateModel" "isKept" "Z", .methodLink RX9 92 yX9_allGrains, .instanceMethod yX9_allGrains, .selects RX9 yX9_allGrains yX9_allGrains, .initialized RX9, .code yX9_allGrains cX9_allGrains 3 (some .int)] ++ wsX90)
def wsX9_restore : List Cond := .code yX9_restore cX9_restore 2 (some .int) :: ([.fieldLink RX9 133 "BowedPlateModel" "isKept" "Z", .fieldLink RX9 22 "BowedPlateModel" "s" "[I", .fieldLink RX9 28 "BowedPlateModel" "kept" "[I", .methodLink RX9 89 yX9_know, .instanceMethod yX9_know, .selects RX9 yX9_know yX9_know, .initialized RX9, .code yX9_know cX9_know 2 none, .fieldLink RX9 59 "BowedPlateModel" "known" "I", .fieldLink RX9 25 "BowedPlateModel" "before" "[I", .methodLink RX9 92 yX9_allGrains, .instanceMethod yX9_allGrains, .selects RX9 yX9_allGrains yX9_allGrains, .code yX9_allGrains cX9_allGrains 3 (some .int)] ++ wsX90)
def wsX9_isStill : List Cond := .code yX9_isStill cX9_isStill 3 (some .boolean) :: ([.fieldLink RX9 22 "BowedPlateModel" "s" "[I", .methodLink RX9 63 yX9_swingAt, .instanceMethod yX9_swingAt, .selects RX9 yX9_swingAt yX9_swingAt, .initialized RX9, .code yX9_swingAt cX9_swingAt 3 (some .int), .fieldLink RX9 19 "BowedPlateModel" "swings" "[I"] ++ wsX90)
def wsX9_place : List Cond := .code yX9_place cX9_place 5 (some .int) :: ([.fieldLink RX9 22 "BowedPlateModel" "s" "[I", .methodLink RX9 80 yX9_isOn, .static yX9_isOn, .initialized RX9, .code yX9_isOn cX9_isOn 2 (some .boolean), .methodLink RX9 55 yX9_in, .static yX9_in, .code yX9_in cX9_in 3 (some .boolean), .methodLink RX9 63 yX9_swingAt, .instanceMethod yX9_swingAt, .selects RX9 yX9_swingAt yX9_swingAt, .code yX9_swingAt cX9_swingAt 3 (some .int), .fieldLink RX9 19 "BowedPlateModel" "swings" "[I", .methodLink RX9 136 yX9_isStill, .instanceMethod yX9_isStill, .selects RX9 yX9_isStill yX9_isStill, .code yX9_isStill cX9_isStill 3 (some .boolean), .methodLink RX9 96 yX9_clampOn, .instanceMethod yX9_clampOn, .selects RX9 yX9_clampOn yX9_clampOn, .code yX9_clampOn cX9_clampOn 3 (some .int)] ++ wsX90)
def wsX9_still : List Cond := .code yX9_still cX9_still 5 (some .int) :: ([.fieldLink RX9 22 "BowedPlateModel" "s" "[I", .methodLink RX9 136 yX9_isStill, .instanceMethod yX9_isStill, .selects RX9 yX9_isStill yX9_isStill, .initialized RX9, .code yX9_isStill cX9_isStill 3 (some .boolean), .methodLink RX9 63 yX9_swingAt, .instanceMethod yX9_swingAt, .selects RX9 yX9_swingAt yX9_swingAt, .code yX9_swingAt cX9_swingAt 3 (some .int), .fieldLink RX9 19 "BowedPlateModel" "swings" "[I"] ++ wsX90)
def wsX9_meet : List Cond := .code yX9_meet cX9_meet 7 none :: ([.fieldLink RX9 37 "BowedPlateModel" "isMet" "[Z", .fieldLink RX9 41 "BowedPlateModel" "row" "[I", .methodLink RX9 80 yX9_isOn, .static yX9_isOn, .initialized RX9, .code yX9_isOn cX9_isOn 2 (some .boolean), .methodLink RX9 55 yX9_in, .static yX9_in, .code yX9_in cX9_in 3 (some .boolean)] ++ wsX90)
def wsX9_lines : List Cond := .code yX9_lines cX9_lines 4 (some .int) :: ([.fieldLink RX9 37 "BowedPlateModel" "isMet" "[Z", .methodLink RX9 136 yX9_isStill, .instanceMethod yX9_isStill, .selects RX9 yX9_isStill yX9_isStill, .initialized RX9, .code yX9_isStill cX9_isStill 3 (some .boolean), .fieldLink RX9 22 "BowedPlateModel" "s" "[I", .methodLink RX9 63 yX9_swingAt, .instanceMethod yX9_swingAt, .selects RX9 yX9_swingAt yX9_swingAt, .code yX9_swingAt cX9_swingAt 3 (some .int), .fieldLink RX9 19 "BowedPlateModel" "swings" "[I", .methodLink RX9 139 yX9_meet, .instanceMethod yX9_meet, .selects RX9 yX9_meet yX9_meet, .code yX9_meet cX9_meet 7 none, .fieldLink RX9 41 "BowedPlateModel" "row" "[I", .methodLink RX9 80 yX9_isOn, .static yX9_isOn, .code yX9_isOn cX9_isOn 2 (some .boolean), .methodLink RX9 55 yX9_in, .static yX9_in, .code yX9_in cX9_in 3 (some .boolean)] ++ wsX90)
def wsX9_way_r1 : List Cond := [Cond.fieldLink RX9 7 "BowedPlateModel" "low" "[I", Cond.fieldLink RX9 13 "BowedPlateModel" "high" "[I", Cond.fieldLink RX9 16 "BowedPlateModel" "minus" "[I", Cond.methodLink RX9 142 yX9_isWay, Cond.static yX9_isWay, Cond.initialized RX9, Cond.code yX9_isWay cX9_isWay 1 (some .boolean), Cond.methodLink RX9 55 yX9_in, Cond.static yX9_in, Cond.code yX9_in cX9_in 3 (some .boolean), Cond.methodLink RX9 145 yX9_noteOf, Cond.instanceMethod yX9_noteOf, Cond.selects RX9 yX9_noteOf yX9_noteOf, Cond.code yX9_noteOf cX9_noteOf 2 (some .int), Cond.methodLink RX9 148 yX9_still, Cond.instanceMethod yX9_still, Cond.selects RX9 yX9_still yX9_still, Cond.code yX9_still cX9_still 5 (some .int), Cond.fieldLink RX9 22 "BowedPlateModel" "s" "[I", Cond.methodLink RX9 136 yX9_isStill, Cond.instanceMethod yX9_isStill, Cond.selects RX9 yX9_isStill yX9_isStill, Cond.code yX9_isStill cX9_isStill 3 (some .boolean), Cond.methodLink RX9 63 yX9_swingAt]
def wsX9_way_r2 : List Cond := [Cond.instanceMethod yX9_swingAt, Cond.selects RX9 yX9_swingAt yX9_swingAt, Cond.code yX9_swingAt cX9_swingAt 3 (some .int), Cond.fieldLink RX9 19 "BowedPlateModel" "swings" "[I", Cond.methodLink RX9 151 yX9_lines, Cond.instanceMethod yX9_lines, Cond.selects RX9 yX9_lines yX9_lines, Cond.code yX9_lines cX9_lines 4 (some .int), Cond.fieldLink RX9 37 "BowedPlateModel" "isMet" "[Z", Cond.methodLink RX9 139 yX9_meet, Cond.instanceMethod yX9_meet, Cond.selects RX9 yX9_meet yX9_meet, Cond.code yX9_meet cX9_meet 7 none, Cond.fieldLink RX9 41 "BowedPlateModel" "row" "[I", Cond.methodLink RX9 80 yX9_isOn, Cond.static yX9_isOn, Cond.code yX9_isOn cX9_isOn 2 (some .boolean), Cond.methodLink RX9 66 yX9_isHeld, Cond.instanceMethod yX9_isHeld, Cond.selects RX9 yX9_isHeld yX9_isHeld, Cond.code yX9_isHeld cX9_isHeld 4 (some .boolean)]
def wsX9_way : List Cond := .code yX9_way cX9_way 3 (some .int) :: ((wsX9_way_r1 ++ wsX9_way_r2) ++ wsX90)
def wsX9_swing : List Cond := .code yX9_swing cX9_swing 4 (some .int) :: ([.methodLink RX9 142 yX9_isWay, .static yX9_isWay, .initialized RX9, .code yX9_isWay cX9_isWay 1 (some .boolean), .methodLink RX9 55 yX9_in, .static yX9_in, .code yX9_in cX9_in 3 (some .boolean), .methodLink RX9 80 yX9_isOn, .static yX9_isOn, .code yX9_isOn cX9_isOn 2 (some .boolean), .methodLink RX9 63 yX9_swingAt, .instanceMethod yX9_swingAt, .selects RX9 yX9_swingAt yX9_swingAt, .code yX9_swingAt cX9_swingAt 3 (some .int), .fieldLink RX9 19 "BowedPlateModel" "swings" "[I"] ++ wsX90)
def wsX9_sounds_r1 : List Cond := [Cond.methodLink RX9 99 yX9_isBow, Cond.static yX9_isBow, Cond.initialized RX9, Cond.code yX9_isBow cX9_isBow 2 (some .boolean), Cond.methodLink RX9 55 yX9_in, Cond.static yX9_in, Cond.code yX9_in cX9_in 3 (some .boolean), Cond.methodLink RX9 74 yX9_bowPlace, Cond.static yX9_bowPlace, Cond.code yX9_bowPlace cX9_bowPlace 2 (some .int), Cond.methodLink RX9 77 yX9_soundsAt, Cond.instanceMethod yX9_soundsAt, Cond.selects RX9 yX9_soundsAt yX9_soundsAt, Cond.code yX9_soundsAt cX9_soundsAt 3 (some .int), Cond.methodLink RX9 70 yX9_canSound, Cond.instanceMethod yX9_canSound, Cond.selects RX9 yX9_canSound yX9_canSound, Cond.code yX9_canSound cX9_canSound 3 (some .boolean), Cond.fieldLink RX9 22 "BowedPlateModel" "s" "[I", Cond.methodLink RX9 66 yX9_isHeld, Cond.instanceMethod yX9_isHeld, Cond.selects RX9 yX9_isHeld yX9_isHeld, Cond.code yX9_isHeld cX9_isHeld 4 (some .boolean), Cond.methodLink RX9 63 yX9_swingAt]
def wsX9_sounds_r2 : List Cond := [Cond.instanceMethod yX9_swingAt, Cond.selects RX9 yX9_swingAt yX9_swingAt, Cond.code yX9_swingAt cX9_swingAt 3 (some .int), Cond.fieldLink RX9 19 "BowedPlateModel" "swings" "[I"]
def wsX9_sounds : List Cond := .code yX9_sounds cX9_sounds 3 (some .int) :: ((wsX9_sounds_r1 ++ wsX9_sounds_r2) ++ wsX90)
def wsX9_why_r1 : List Cond := [Cond.fieldLink RX9 22 "BowedPlateModel" "s" "[I", Cond.methodLink RX9 142 yX9_isWay, Cond.static yX9_isWay, Cond.initialized RX9, Cond.code yX9_isWay cX9_isWay 1 (some .boolean), Cond.methodLink RX9 55 yX9_in, Cond.static yX9_in, Cond.code yX9_in cX9_in 3 (some .boolean), Cond.methodLink RX9 99 yX9_isBow, Cond.static yX9_isBow, Cond.code yX9_isBow cX9_isBow 2 (some .boolean), Cond.methodLink RX9 74 yX9_bowPlace, Cond.static yX9_bowPlace, Cond.code yX9_bowPlace cX9_bowPlace 2 (some .int), Cond.methodLink RX9 66 yX9_isHeld, Cond.instanceMethod yX9_isHeld, Cond.selects RX9 yX9_isHeld yX9_isHeld, Cond.code yX9_isHeld cX9_isHeld 4 (some .boolean), Cond.methodLink RX9 63 yX9_swingAt, Cond.instanceMethod yX9_swingAt, Cond.selects RX9 yX9_swingAt yX9_swingAt, Cond.code yX9_swingAt cX9_swingAt 3 (some .int), Cond.fieldLink RX9 19 "BowedPlateModel" "swings" "[I", Cond.methodLink RX9 77 yX9_soundsAt]
def wsX9_why_r2 : List Cond := [Cond.instanceMethod yX9_soundsAt, Cond.selects RX9 yX9_soundsAt yX9_soundsAt, Cond.code yX9_soundsAt cX9_soundsAt 3 (some .int), Cond.methodLink RX9 70 yX9_canSound, Cond.instanceMethod yX9_canSound, Cond.selects RX9 yX9_canSound yX9_canSound, Cond.code yX9_canSound cX9_canSound 3 (some .boolean)]
def wsX9_why : List Cond := .code yX9_why cX9_why 5 (some .int) :: ((wsX9_why_r1 ++ wsX9_why_r2) ++ wsX90)
def wsX9_possible_r1 : List Cond := [Cond.methodLink RX9 154 yX9_isPossible, Cond.instanceMethod yX9_isPossible, Cond.selects RX9 yX9_isPossible yX9_isPossible, Cond.initialized RX9, Cond.code yX9_isPossible cX9_isPossible 4 (some .boolean), Cond.methodLink RX9 74 yX9_bowPlace, Cond.static yX9_bowPlace, Cond.code yX9_bowPlace cX9_bowPlace 2 (some .int), Cond.methodLink RX9 77 yX9_soundsAt, Cond.instanceMethod yX9_soundsAt, Cond.selects RX9 yX9_soundsAt yX9_soundsAt, Cond.code yX9_soundsAt cX9_soundsAt 3 (some .int), Cond.methodLink RX9 70 yX9_canSound, Cond.instanceMethod yX9_canSound, Cond.selects RX9 yX9_canSound yX9_canSound, Cond.code yX9_canSound cX9_canSound 3 (some .boolean), Cond.fieldLink RX9 22 "BowedPlateModel" "s" "[I", Cond.methodLink RX9 66 yX9_isHeld, Cond.instanceMethod yX9_isHeld, Cond.selects RX9 yX9_isHeld yX9_isHeld, Cond.code yX9_isHeld cX9_isHeld 4 (some .boolean), Cond.methodLink RX9 63 yX9_swingAt, Cond.instanceMethod yX9_swingAt, Cond.selects RX9 yX9_swingAt yX9_swingAt]
def wsX9_possible_r2 : List Cond := [Cond.code yX9_swingAt cX9_swingAt 3 (some .int), Cond.fieldLink RX9 19 "BowedPlateModel" "swings" "[I"]
def wsX9_possible : List Cond := .code yX9_possible cX9_possible 4 (some .int) :: ((wsX9_possible_r1 ++ wsX9_possible_r2) ++ wsX90)
def wsX9_waiting_r1 : List Cond := [Cond.fieldLink RX9 22 "BowedPlateModel" "s" "[I", Cond.methodLink RX9 55 yX9_in, Cond.static yX9_in, Cond.initialized RX9, Cond.code yX9_in cX9_in 3 (some .boolean), Cond.methodLink RX9 74 yX9_bowPlace, Cond.static yX9_bowPlace, Cond.code yX9_bowPlace cX9_bowPlace 2 (some .int), Cond.methodLink RX9 77 yX9_soundsAt, Cond.instanceMethod yX9_soundsAt, Cond.selects RX9 yX9_soundsAt yX9_soundsAt, Cond.code yX9_soundsAt cX9_soundsAt 3 (some .int), Cond.methodLink RX9 70 yX9_canSound, Cond.instanceMethod yX9_canSound, Cond.selects RX9 yX9_canSound yX9_canSound, Cond.code yX9_canSound cX9_canSound 3 (some .boolean), Cond.methodLink RX9 66 yX9_isHeld, Cond.instanceMethod yX9_isHeld, Cond.selects RX9 yX9_isHeld yX9_isHeld, Cond.code yX9_isHeld cX9_isHeld 4 (some .boolean), Cond.methodLink RX9 63 yX9_swingAt, Cond.instanceMethod yX9_swingAt, Cond.selects RX9 yX9_swingAt yX9_swingAt, Cond.code yX9_swingAt cX9_swingAt 3 (some .int)]
def wsX9_waiting_r2 : List Cond := [Cond.fieldLink RX9 19 "BowedPlateModel" "swings" "[I"]
def wsX9_waiting : List Cond := .code yX9_waiting cX9_waiting 4 (some .int) :: ((wsX9_waiting_r1 ++ wsX9_waiting_r2) ++ wsX90)
def wsX9_sand : List Cond := .code yX9_sand cX9_sand 5 (some .int) :: ([.fieldLink RX9 22 "BowedPlateModel" "s" "[I", .methodLink RX9 55 yX9_in, .static yX9_in, .initialized RX9, .code yX9_in cX9_in 3 (some .boolean)] ++ wsX90)
def wsX9_possibles_r1 : List Cond := [Cond.methodLink RX9 154 yX9_isPossible, Cond.instanceMethod yX9_isPossible, Cond.selects RX9 yX9_isPossible yX9_isPossible, Cond.initialized RX9, Cond.code yX9_isPossible cX9_isPossible 4 (some .boolean), Cond.methodLink RX9 74 yX9_bowPlace, Cond.static yX9_bowPlace, Cond.code yX9_bowPlace cX9_bowPlace 2 (some .int), Cond.methodLink RX9 77 yX9_soundsAt, Cond.instanceMethod yX9_soundsAt, Cond.selects RX9 yX9_soundsAt yX9_soundsAt, Cond.code yX9_soundsAt cX9_soundsAt 3 (some .int), Cond.methodLink RX9 70 yX9_canSound, Cond.instanceMethod yX9_canSound, Cond.selects RX9 yX9_canSound yX9_canSound, Cond.code yX9_canSound cX9_canSound 3 (some .boolean), Cond.fieldLink RX9 22 "BowedPlateModel" "s" "[I", Cond.methodLink RX9 66 yX9_isHeld, Cond.instanceMethod yX9_isHeld, Cond.selects RX9 yX9_isHeld yX9_isHeld, Cond.code yX9_isHeld cX9_isHeld 4 (some .boolean), Cond.methodLink RX9 63 yX9_swingAt, Cond.instanceMethod yX9_swingAt, Cond.selects RX9 yX9_swingAt yX9_swingAt]
def wsX9_possibles_r2 : List Cond := [Cond.code yX9_swingAt cX9_swingAt 3 (some .int), Cond.fieldLink RX9 19 "BowedPlateModel" "swings" "[I"]
def wsX9_possibles : List Cond := .code yX9_possibles cX9_possibles 3 (some .int) :: ((wsX9_possibles_r1 ++ wsX9_possibles_r2) ++ wsX90)
def wsX9_mostGrains : List Cond := .code yX9_mostGrains cX9_mostGrains 3 (some .int) :: ([.fieldLink RX9 22 "BowedPlateModel" "s" "[I"] ++ wsX90)
def wsX9_count_r1 : List Cond := [Cond.fieldLink RX9 22 "BowedPlateModel" "s" "[I", Cond.fieldLink RX9 59 "BowedPlateModel" "known" "I", Cond.fieldLink RX9 113 "BowedPlateModel" "typed" "I", Cond.methodLink RX9 92 yX9_allGrains, Cond.instanceMethod yX9_allGrains, Cond.selects RX9 yX9_allGrains yX9_allGrains, Cond.initialized RX9, Cond.code yX9_allGrains cX9_allGrains 3 (some .int), Cond.methodLink RX9 157 yX9_possibles, Cond.instanceMethod yX9_possibles, Cond.selects RX9 yX9_possibles yX9_possibles, Cond.code yX9_possibles cX9_possibles 3 (some .int), Cond.methodLink RX9 154 yX9_isPossible, Cond.instanceMethod yX9_isPossible, Cond.selects RX9 yX9_isPossible yX9_isPossible, Cond.code yX9_isPossible cX9_isPossible 4 (some .boolean), Cond.methodLink RX9 74 yX9_bowPlace, Cond.static yX9_bowPlace, Cond.code yX9_bowPlace cX9_bowPlace 2 (some .int), Cond.methodLink RX9 77 yX9_soundsAt, Cond.instanceMethod yX9_soundsAt, Cond.selects RX9 yX9_soundsAt yX9_soundsAt, Cond.code yX9_soundsAt cX9_soundsAt 3 (some .int), Cond.methodLink RX9 70 yX9_canSound]
def wsX9_count_r2 : List Cond := [Cond.instanceMethod yX9_canSound, Cond.selects RX9 yX9_canSound yX9_canSound, Cond.code yX9_canSound cX9_canSound 3 (some .boolean), Cond.methodLink RX9 66 yX9_isHeld, Cond.instanceMethod yX9_isHeld, Cond.selects RX9 yX9_isHeld yX9_isHeld, Cond.code yX9_isHeld cX9_isHeld 4 (some .boolean), Cond.methodLink RX9 63 yX9_swingAt, Cond.instanceMethod yX9_swingAt, Cond.selects RX9 yX9_swingAt yX9_swingAt, Cond.code yX9_swingAt cX9_swingAt 3 (some .int), Cond.fieldLink RX9 19 "BowedPlateModel" "swings" "[I", Cond.methodLink RX9 160 yX9_mostGrains, Cond.instanceMethod yX9_mostGrains, Cond.selects RX9 yX9_mostGrains yX9_mostGrains, Cond.code yX9_mostGrains cX9_mostGrains 3 (some .int)]
def wsX9_count : List Cond := .code yX9_count cX9_count 2 (some .int) :: ((wsX9_count_r1 ++ wsX9_count_r2) ++ wsX90)
def wsX9_clampAt : List Cond := .code yX9_clampAt cX9_clampAt 3 (some .int) :: ([.fieldLink RX9 22 "BowedPlateModel" "s" "[I", .methodLink RX9 55 yX9_in, .static yX9_in, .initialized RX9, .code yX9_in cX9_in 3 (some .boolean)] ++ wsX90)
def wsJ9_abs_0f7a4 : List Cond := .code yJ9_abs_0f7a4 cJ9_abs_0f7a4 1 (some .int) :: ([])
def wsJ9_max_7cf53 : List Cond := .code yJ9_max_7cf53 cJ9_max_7cf53 2 (some .int) :: ([])
def wsJ9_min_7cf53 : List Cond := .code yJ9_min_7cf53 cJ9_min_7cf53 2 (some .int) :: ([])
def wsL_law_r1 : List Cond := [Cond.classLink RL 7 RX8, Cond.instantiable RX8 9, Cond.initialized RX8, Cond.classLink RL 10 RX9, Cond.instantiable RX9 16, Cond.initialized RX9, Cond.methodLink RL 9 yX8_init, Cond.instanceMethod yX8_init, Cond.code yX8_init cX8_init 1 none, Cond.methodLink RX8 3 objectInit, Cond.instanceMethod objectInit, Cond.code objectInit ⟨#[0xb1]⟩ 1 none, Cond.classLink RX8 9 RX7, Cond.instantiable RX7 5, Cond.initialized RX7, Cond.fieldLink RX8 12 "BowedPlate" "ways" "LBowedPlate$Ways;", Cond.classLink RX8 16 RX5, Cond.instantiable RX5 12, Cond.initialized RX5, Cond.fieldLink RX8 19 "BowedPlate" "now" "LBowedPlate$State;", Cond.classLink RX8 23 RX0, Cond.instantiable RX0 5, Cond.initialized RX0, Cond.fieldLink RX8 28 "BowedPlate" "choice" "LBowedPlate$Choice;"]
def wsL_law_r2 : List Cond := [Cond.classLink RX8 32 RX1, Cond.instantiable RX1 5, Cond.initialized RX1, Cond.fieldLink RX8 35 "BowedPlate" "figure" "LBowedPlate$Figure;", Cond.classLink RX8 39 RX3, Cond.instantiable RX3 5, Cond.initialized RX3, Cond.fieldLink RX8 42 "BowedPlate" "mover" "LBowedPlate$Mover;", Cond.classLink RX8 46 RX6, Cond.instantiable RX6 4, Cond.initialized RX6, Cond.fieldLink RX8 49 "BowedPlate" "text" "LBowedPlate$Text;", Cond.classLink RX8 53 RX2, Cond.instantiable RX2 3, Cond.initialized RX2, Cond.fieldLink RX8 56 "BowedPlate" "history" "LBowedPlate$History;", Cond.fieldLink RX8 60 "BowedPlate" "snapshot" "LBowedPlate$State;", Cond.fieldLink RX8 63 "BowedPlate" "hasSnapshot" "Z", Cond.methodLink RX8 11 yX7_init, Cond.instanceMethod yX7_init, Cond.code yX7_init cX7_init 3 none, Cond.methodLink RX7 3 objectInit, Cond.arrayClass .int, Cond.fieldLink RX7 9 "BowedPlate$Ways" "lesser" "[I"]
def wsL_law_r3 : List Cond := [Cond.fieldLink RX7 15 "BowedPlate$Ways" "greater" "[I", Cond.fieldLink RX7 18 "BowedPlate$Ways" "sign" "[I", Cond.fieldLink RX7 21 "BowedPlate$Ways" "heights" "[I", Cond.fieldLink RX7 24 "BowedPlate$Ways" "listed" "I", Cond.methodLink RX7 28 yX7_waveHeight, Cond.static yX7_waveHeight, Cond.code yX7_waveHeight cX7_waveHeight 3 (some .int), Cond.methodLink RX7 32 yX7_listWaysOf, Cond.instanceMethod yX7_listWaysOf, Cond.selects RX7 yX7_listWaysOf yX7_listWaysOf, Cond.code yX7_listWaysOf cX7_listWaysOf 5 none, Cond.methodLink RX8 18 yX5_init, Cond.instanceMethod yX5_init, Cond.code yX5_init cX5_init 1 none, Cond.methodLink RX5 3 objectInit, Cond.fieldLink RX5 9 "BowedPlate$State" "grains" "[I", Cond.fieldLink RX5 15 "BowedPlate$State" "clampColumns" "[I", Cond.fieldLink RX5 18 "BowedPlate$State" "clampRows" "[I", Cond.fieldLink RX5 21 "BowedPlate$State" "clamps" "I", Cond.fieldLink RX5 25 "BowedPlate$State" "settings" "[I", Cond.classLink RX5 28 RX4, Cond.instantiable RX4 5, Cond.initialized RX4, Cond.fieldLink RX5 33 "BowedPlate$State" "piece" "LBowedPlate$Piece;"]
def wsL_law_r4 : List Cond := [Cond.fieldLink RX5 37 "BowedPlate$State" "lastWay" "I", Cond.fieldLink RX5 40 "BowedPlate$State" "strewn" "I", Cond.fieldLink RX5 43 "BowedPlate$State" "swept" "I", Cond.fieldLink RX5 46 "BowedPlate$State" "fallen" "I", Cond.fieldLink RX5 49 "BowedPlate$State" "strokes" "I", Cond.fieldLink RX5 52 "BowedPlate$State" "mutes" "I", Cond.methodLink RX5 61 arraycopyName, Cond.native arraycopyName, Cond.static arraycopyName, Cond.initialized "java/lang/System", Cond.methodLink RX5 30 yX4_init, Cond.instanceMethod yX4_init, Cond.code yX4_init cX4_init 2 none, Cond.methodLink RX4 1 objectInit, Cond.fieldLink RX4 7 "BowedPlate$Piece" "size" "I", Cond.methodLink RX4 13 Lib.Math.max.name, Cond.static Lib.Math.max.name, Cond.initialized "java/lang/Math", Cond.code Lib.Math.max.name Lib.Math.max.code 2 (some .int), Cond.fieldLink RX4 19 "BowedPlate$Piece" "limit" "I", Cond.fieldLink RX4 22 "BowedPlate$Piece" "sides" "[I", Cond.fieldLink RX4 26 "BowedPlate$Piece" "alongs" "[I", Cond.fieldLink RX4 29 "BowedPlate$Piece" "strokes" "[I", Cond.methodLink RX5 55 yX5_coverWith]
def wsL_law_r5 : List Cond := [Cond.instanceMethod yX5_coverWith, Cond.selects RX5 yX5_coverWith yX5_coverWith, Cond.code yX5_coverWith cX5_coverWith 3 none, Cond.methodLink RX8 25 yX0_init, Cond.instanceMethod yX0_init, Cond.code yX0_init cX0_init 3 none, Cond.methodLink RX0 3 objectInit, Cond.fieldLink RX0 9 "BowedPlate$Choice" "possibleWay" "[I", Cond.fieldLink RX0 15 "BowedPlate$Choice" "possibleWays" "I", Cond.arrayClass .boolean, Cond.fieldLink RX0 19 "BowedPlate$Choice" "isTaken" "[Z", Cond.fieldLink RX0 23 "BowedPlate$Choice" "ways" "LBowedPlate$Ways;", Cond.fieldLink RX0 27 "BowedPlate$Choice" "now" "LBowedPlate$State;", Cond.methodLink RX8 34 yX1_init, Cond.instanceMethod yX1_init, Cond.code yX1_init cX1_init 3 none, Cond.methodLink RX1 3 objectInit, Cond.fieldLink RX1 9 "BowedPlate$Figure" "isOpen" "[Z", Cond.fieldLink RX1 15 "BowedPlate$Figure" "reached" "[I", Cond.fieldLink RX1 19 "BowedPlate$Figure" "reaches" "I", Cond.fieldLink RX1 23 "BowedPlate$Figure" "ways" "LBowedPlate$Ways;", Cond.fieldLink RX1 27 "BowedPlate$Figure" "now" "LBowedPlate$State;", Cond.methodLink RX8 41 yX3_init, Cond.instanceMethod yX3_init]
def wsL_law_r6 : List Cond := [Cond.code yX3_init cX3_init 3 none, Cond.methodLink RX3 3 objectInit, Cond.fieldLink RX3 9 "BowedPlate$Mover" "swings" "[I", Cond.fieldLink RX3 15 "BowedPlate$Mover" "targets" "[I", Cond.fieldLink RX3 18 "BowedPlate$Mover" "arrivals" "[I", Cond.fieldLink RX3 21 "BowedPlate$Mover" "ways" "LBowedPlate$Ways;", Cond.fieldLink RX3 25 "BowedPlate$Mover" "now" "LBowedPlate$State;", Cond.instanceMethod yX6_init, Cond.code yX6_init cX6_init 1 none, Cond.methodLink RX6 3 objectInit, Cond.arrayClass .char, Cond.fieldLink RX6 9 "BowedPlate$Text" "characters" "[C", Cond.fieldLink RX6 15 "BowedPlate$Text" "length" "I", Cond.classLink RX6 19 RX4, Cond.fieldLink RX6 24 "BowedPlate$Text" "piece" "LBowedPlate$Piece;", Cond.fieldLink RX6 28 "BowedPlate$Text" "cursor" "I", Cond.methodLink RX6 21 yX4_init, Cond.methodLink RX8 55 yX2_init, Cond.instanceMethod yX2_init, Cond.code yX2_init cX2_init 2 none, Cond.methodLink RX2 3 objectInit, Cond.classLink RX2 9 RX5, Cond.fieldLink RX2 11 "BowedPlate$History" "states" "[LBowedPlate$State;", Cond.fieldLink RX2 17 "BowedPlate$History" "oldest" "I"]
def wsL_law_r7 : List Cond := [Cond.fieldLink RX2 21 "BowedPlate$History" "held" "I", Cond.methodLink RX2 24 yX5_init, Cond.methodLink RL 12 yX9_init, Cond.instanceMethod yX9_init, Cond.code yX9_init cX9_init 2 none, Cond.methodLink RX9 1 objectInit, Cond.fieldLink RX9 7 "BowedPlateModel" "low" "[I", Cond.fieldLink RX9 13 "BowedPlateModel" "high" "[I", Cond.fieldLink RX9 16 "BowedPlateModel" "minus" "[I", Cond.fieldLink RX9 19 "BowedPlateModel" "swings" "[I", Cond.fieldLink RX9 22 "BowedPlateModel" "s" "[I", Cond.fieldLink RX9 25 "BowedPlateModel" "before" "[I", Cond.fieldLink RX9 28 "BowedPlateModel" "kept" "[I", Cond.fieldLink RX9 31 "BowedPlateModel" "text" "[I", Cond.fieldLink RX9 34 "BowedPlateModel" "more" "[I", Cond.fieldLink RX9 37 "BowedPlateModel" "isMet" "[Z", Cond.fieldLink RX9 41 "BowedPlateModel" "row" "[I", Cond.methodLink RX9 44 yX9_findWays, Cond.instanceMethod yX9_findWays, Cond.selects RX9 yX9_findWays yX9_findWays, Cond.code yX9_findWays cX9_findWays 8 none, Cond.methodLink RX9 47 yX9_wave, Cond.static yX9_wave, Cond.code yX9_wave cX9_wave 3 (some .int)]
def wsL_law_r8 : List Cond := [Cond.methodLink RX9 51 yX9_size, Cond.static yX9_size, Cond.code yX9_size cX9_size 1 (some .int), Cond.methodLink RL 13 yX8_strew, Cond.instanceMethod yX8_strew, Cond.selects RX8 yX8_strew yX8_strew, Cond.code yX8_strew cX8_strew 5 (some .int), Cond.methodLink RX8 67 yX8_isPlace, Cond.static yX8_isPlace, Cond.code yX8_isPlace cX8_isPlace 2 (some .boolean), Cond.methodLink RX8 71 yX2_record, Cond.instanceMethod yX2_record, Cond.selects RX2 yX2_record yX2_record, Cond.code yX2_record cX2_record 3 none, Cond.methodLink RX2 25 yX5_copyFrom, Cond.instanceMethod yX5_copyFrom, Cond.selects RX5 yX5_copyFrom yX5_copyFrom, Cond.code yX5_copyFrom cX5_copyFrom 2 none, Cond.methodLink RX5 67 yX4_copyFrom, Cond.instanceMethod yX4_copyFrom, Cond.selects RX4 yX4_copyFrom yX4_copyFrom, Cond.code yX4_copyFrom cX4_copyFrom 2 none, Cond.methodLink RX4 36 yX4_appendAll, Cond.instanceMethod yX4_appendAll]
def wsL_law_r9 : List Cond := [Cond.selects RX4 yX4_appendAll yX4_appendAll, Cond.code yX4_appendAll cX4_appendAll 3 none, Cond.methodLink RX4 32 yX4_append, Cond.instanceMethod yX4_append, Cond.selects RX4 yX4_append yX4_append, Cond.code yX4_append cX4_append 4 none, Cond.methodLink RX8 75 yX8_placeOf, Cond.static yX8_placeOf, Cond.code yX8_placeOf cX8_placeOf 2 (some .int), Cond.methodLink RL 17 yX9_strew, Cond.instanceMethod yX9_strew, Cond.selects RX9 yX9_strew yX9_strew, Cond.code yX9_strew cX9_strew 4 (some .int), Cond.methodLink RX9 80 yX9_isOn, Cond.static yX9_isOn, Cond.code yX9_isOn cX9_isOn 2 (some .boolean), Cond.methodLink RX9 55 yX9_in, Cond.static yX9_in, Cond.code yX9_in cX9_in 3 (some .boolean), Cond.methodLink RX9 89 yX9_know, Cond.instanceMethod yX9_know, Cond.selects RX9 yX9_know yX9_know, Cond.code yX9_know cX9_know 2 none, Cond.fieldLink RX9 59 "BowedPlateModel" "known" "I"]
def wsL_law_r10 : List Cond := [Cond.methodLink RL 18 yX8_sweep, Cond.instanceMethod yX8_sweep, Cond.selects RX8 yX8_sweep yX8_sweep, Cond.code yX8_sweep cX8_sweep 3 (some .int), Cond.methodLink RX8 87 yX5_allGrains, Cond.instanceMethod yX5_allGrains, Cond.selects RX5 yX5_allGrains yX5_allGrains, Cond.code yX5_allGrains cX5_allGrains 3 (some .int), Cond.methodLink RX8 94 yX5_coverWith, Cond.methodLink RL 22 yX9_sweep, Cond.instanceMethod yX9_sweep, Cond.selects RX9 yX9_sweep yX9_sweep, Cond.code yX9_sweep cX9_sweep 4 (some .int), Cond.methodLink RX9 92 yX9_allGrains, Cond.instanceMethod yX9_allGrains, Cond.selects RX9 yX9_allGrains yX9_allGrains, Cond.code yX9_allGrains cX9_allGrains 3 (some .int), Cond.methodLink RL 23 yX8_clamp, Cond.instanceMethod yX8_clamp, Cond.selects RX8 yX8_clamp yX8_clamp, Cond.code yX8_clamp cX8_clamp 3 (some .int), Cond.methodLink RX8 101 yX5_clampOn, Cond.instanceMethod yX5_clampOn, Cond.selects RX5 yX5_clampOn yX5_clampOn]
def wsL_law_r11 : List Cond := [Cond.code yX5_clampOn cX5_clampOn 4 (some .int), Cond.methodLink RL 27 yX9_clamp, Cond.instanceMethod yX9_clamp, Cond.selects RX9 yX9_clamp yX9_clamp, Cond.code yX9_clamp cX9_clamp 3 (some .int), Cond.methodLink RX9 96 yX9_clampOn, Cond.instanceMethod yX9_clampOn, Cond.selects RX9 yX9_clampOn yX9_clampOn, Cond.code yX9_clampOn cX9_clampOn 3 (some .int), Cond.methodLink RL 28 yX8_unclamp, Cond.instanceMethod yX8_unclamp, Cond.selects RX8 yX8_unclamp yX8_unclamp, Cond.code yX8_unclamp cX8_unclamp 2 (some .int), Cond.methodLink RX8 110 yX8_isClamp, Cond.instanceMethod yX8_isClamp, Cond.selects RX8 yX8_isClamp yX8_isClamp, Cond.code yX8_isClamp cX8_isClamp 2 (some .boolean), Cond.methodLink RX8 114 yX5_dropClamp, Cond.instanceMethod yX5_dropClamp, Cond.selects RX5 yX5_dropClamp yX5_dropClamp, Cond.code yX5_dropClamp cX5_dropClamp 3 none, Cond.methodLink RL 31 yX9_unclamp, Cond.instanceMethod yX9_unclamp, Cond.selects RX9 yX9_unclamp yX9_unclamp]
def wsL_law_r12 : List Cond := [Cond.code yX9_unclamp cX9_unclamp 3 (some .int), Cond.methodLink RL 32 yX8_set, Cond.instanceMethod yX8_set, Cond.selects RX8 yX8_set yX8_set, Cond.code yX8_set cX8_set 4 (some .int), Cond.fieldLink RX8 117 "BowedPlate" "LEAST_SETTING" "[I", Cond.fieldLink RX8 120 "BowedPlate" "MOST_SETTING" "[I", Cond.methodLink RL 35 yX9_set, Cond.instanceMethod yX9_set, Cond.selects RX9 yX9_set yX9_set, Cond.code yX9_set cX9_set 6 (some .int), Cond.methodLink RL 36 yX8_bow, Cond.instanceMethod yX8_bow, Cond.selects RX8 yX8_bow yX8_bow, Cond.code yX8_bow cX8_bow 4 (some .int), Cond.methodLink RX8 126 yX8_isBow, Cond.static yX8_isBow, Cond.code yX8_isBow cX8_isBow 2 (some .boolean), Cond.methodLink RX8 256 yX8_isLine, Cond.static yX8_isLine, Cond.code yX8_isLine cX8_isLine 1 (some .boolean), Cond.methodLink RX8 138 yX4_append, Cond.methodLink RL 39 yX9_bow, Cond.instanceMethod yX9_bow]
def wsL_law_r13 : List Cond := [Cond.selects RX9 yX9_bow yX9_bow, Cond.code yX9_bow cX9_bow 4 (some .int), Cond.methodLink RX9 99 yX9_isBow, Cond.static yX9_isBow, Cond.code yX9_isBow cX9_isBow 2 (some .boolean), Cond.methodLink RX9 102 yX9_waits, Cond.instanceMethod yX9_waits, Cond.selects RX9 yX9_waits yX9_waits, Cond.code yX9_waits cX9_waits 5 (some .int), Cond.methodLink RL 40 yX8_bowAll, Cond.instanceMethod yX8_bowAll, Cond.selects RX8 yX8_bowAll yX8_bowAll, Cond.code yX8_bowAll cX8_bowAll 1 (some .int), Cond.methodLink RX8 142 yX6_read, Cond.instanceMethod yX6_read, Cond.selects RX6 yX6_read yX6_read, Cond.code yX6_read cX6_read 2 (some .boolean), Cond.methodLink RX6 34 yX6_readBowing, Cond.instanceMethod yX6_readBowing, Cond.selects RX6 yX6_readBowing yX6_readBowing, Cond.code yX6_readBowing cX6_readBowing 4 (some .boolean), Cond.methodLink RX6 38 yX6_next, Cond.instanceMethod yX6_next, Cond.selects RX6 yX6_next yX6_next]
def wsL_law_r14 : List Cond := [Cond.code yX6_next cX6_next 2 (some .int), Cond.methodLink RX6 42 yX6_sideOf, Cond.static yX6_sideOf, Cond.code yX6_sideOf cX6_sideOf 1 (some .int), Cond.methodLink RX6 46 yX6_readNumber, Cond.instanceMethod yX6_readNumber, Cond.selects RX6 yX6_readNumber yX6_readNumber, Cond.code yX6_readNumber cX6_readNumber 6 (some .int), Cond.methodLink RX6 54 yX6_digitOf, Cond.static yX6_digitOf, Cond.code yX6_digitOf cX6_digitOf 1 (some .int), Cond.methodLink RX6 50 yX4_append, Cond.methodLink RX8 146 yX6_fault, Cond.instanceMethod yX6_fault, Cond.selects RX6 yX6_fault yX6_fault, Cond.code yX6_fault cX6_fault 1 (some .int), Cond.methodLink RX8 150 yX4_appendAll, Cond.methodLink RL 44 yX9_bowAll, Cond.instanceMethod yX9_bowAll, Cond.selects RX9 yX9_bowAll yX9_bowAll, Cond.code yX9_bowAll cX9_bowAll 2 (some .int), Cond.fieldLink RX9 119 "BowedPlateModel" "isWrong" "Z", Cond.fieldLink RX9 116 "BowedPlateModel" "at" "I", Cond.methodLink RX9 129 yX9_go]
def wsL_law_r15 : List Cond := [Cond.instanceMethod yX9_go, Cond.selects RX9 yX9_go yX9_go, Cond.code yX9_go cX9_go 11 (some .int), Cond.fieldLink RX9 113 "BowedPlateModel" "typed" "I", Cond.methodLink RX9 126 yX9_number, Cond.instanceMethod yX9_number, Cond.selects RX9 yX9_number yX9_number, Cond.code yX9_number cX9_number 5 (some .int), Cond.methodLink RX9 123 yX9_sign, Cond.instanceMethod yX9_sign, Cond.selects RX9 yX9_sign yX9_sign, Cond.code yX9_sign cX9_sign 4 (some .int), Cond.methodLink RL 45 yX8_strike, Cond.instanceMethod yX8_strike, Cond.selects RX8 yX8_strike yX8_strike, Cond.code yX8_strike cX8_strike 2 (some .int), Cond.methodLink RX8 154 yX4_sizeAt, Cond.instanceMethod yX4_sizeAt, Cond.selects RX4 yX4_sizeAt yX4_sizeAt, Cond.code yX4_sizeAt cX4_sizeAt 4 (some .int), Cond.methodLink RX8 158 yX4_dropSide, Cond.instanceMethod yX4_dropSide, Cond.selects RX4 yX4_dropSide yX4_dropSide, Cond.code yX4_dropSide cX4_dropSide 4 (some .int)]
def wsL_law_r16 : List Cond := [Cond.methodLink RL 48 yX9_strike, Cond.instanceMethod yX9_strike, Cond.selects RX9 yX9_strike yX9_strike, Cond.code yX9_strike cX9_strike 4 (some .int), Cond.methodLink RX9 106 yX9_strikeAt, Cond.instanceMethod yX9_strikeAt, Cond.selects RX9 yX9_strikeAt yX9_strikeAt, Cond.code yX9_strikeAt cX9_strikeAt 3 none, Cond.methodLink RL 49 yX8_play, Cond.instanceMethod yX8_play, Cond.selects RX8 yX8_play yX8_play, Cond.code yX8_play cX8_play 5 (some .int), Cond.methodLink RX8 161 Lib.Math.min.name, Cond.static Lib.Math.min.name, Cond.code Lib.Math.min.name Lib.Math.min.code 2 (some .int), Cond.methodLink RX8 166 yX8_playBowing, Cond.instanceMethod yX8_playBowing, Cond.selects RX8 yX8_playBowing yX8_playBowing, Cond.code yX8_playBowing cX8_playBowing 4 (some .boolean), Cond.methodLink RX8 232 yX0_wayFor, Cond.instanceMethod yX0_wayFor, Cond.selects RX0 yX0_wayFor yX0_wayFor, Cond.code yX0_wayFor cX0_wayFor 4 (some .int), Cond.methodLink RX0 54 yX0_bowAllows]
def wsL_law_r17 : List Cond := [Cond.instanceMethod yX0_bowAllows, Cond.selects RX0 yX0_bowAllows yX0_bowAllows, Cond.code yX0_bowAllows cX0_bowAllows 4 (some .boolean), Cond.methodLink RX0 51 yX0_swingAtBow, Cond.instanceMethod yX0_swingAtBow, Cond.selects RX0 yX0_swingAtBow yX0_swingAtBow, Cond.code yX0_swingAtBow cX0_swingAtBow 4 (some .int), Cond.methodLink RX0 42 yX7_swingAt, Cond.instanceMethod yX7_swingAt, Cond.selects RX7 yX7_swingAt yX7_swingAt, Cond.code yX7_swingAt cX7_swingAt 8 (some .int), Cond.methodLink RX7 44 Lib.Math.abs.name, Cond.static Lib.Math.abs.name, Cond.code Lib.Math.abs.name Lib.Math.abs.code 1 (some .int), Cond.static yX8_isWay, Cond.code yX8_isWay cX8_isWay 1 (some .boolean), Cond.methodLink RX0 58 yX0_clampsAllow, Cond.instanceMethod yX0_clampsAllow, Cond.selects RX0 yX0_clampsAllow yX0_clampsAllow, Cond.code yX0_clampsAllow cX0_clampsAllow 4 (some .boolean), Cond.methodLink RX8 190 yX8_isWay, Cond.methodLink RX8 270 yX3_stroke, Cond.instanceMethod yX3_stroke, Cond.selects RX3 yX3_stroke yX3_stroke]
def wsL_law_r18 : List Cond := [Cond.code yX3_stroke cX3_stroke 4 none, Cond.static yX8_columnOf, Cond.code yX8_columnOf cX8_columnOf 1 (some .int), Cond.static yX8_rowOf, Cond.code yX8_rowOf cX8_rowOf 1 (some .int), Cond.methodLink RX3 36 yX7_swingAt, Cond.methodLink RX3 42 yX3_targetOf, Cond.instanceMethod yX3_targetOf, Cond.selects RX3 yX3_targetOf yX3_targetOf, Cond.code yX3_targetOf cX3_targetOf 4 (some .int), Cond.methodLink RX3 52 yX3_calmerOf, Cond.instanceMethod yX3_calmerOf, Cond.selects RX3 yX3_calmerOf yX3_calmerOf, Cond.code yX3_calmerOf cX3_calmerOf 4 (some .int), Cond.methodLink RX3 46 yX3_strokeOnce, Cond.instanceMethod yX3_strokeOnce, Cond.selects RX3 yX3_strokeOnce yX3_strokeOnce, Cond.code yX3_strokeOnce cX3_strokeOnce 2 none, Cond.methodLink RX3 67 yX3_shake, Cond.instanceMethod yX3_shake, Cond.selects RX3 yX3_shake yX3_shake, Cond.code yX3_shake cX3_shake 3 none, Cond.methodLink RX3 71 yX3_isAtEdge, Cond.static yX3_isAtEdge]
def wsL_law_r19 : List Cond := [Cond.code yX3_isAtEdge cX3_isAtEdge 3 (some .boolean), Cond.methodLink RX8 169 yX4_dropFirst, Cond.instanceMethod yX4_dropFirst, Cond.selects RX4 yX4_dropFirst yX4_dropFirst, Cond.code yX4_dropFirst cX4_dropFirst 4 none, Cond.methodLink RL 52 yX9_play, Cond.instanceMethod yX9_play, Cond.selects RX9 yX9_play yX9_play, Cond.code yX9_play cX9_play 7 (some .int), Cond.methodLink RX9 74 yX9_bowPlace, Cond.static yX9_bowPlace, Cond.code yX9_bowPlace cX9_bowPlace 2 (some .int), Cond.methodLink RX9 77 yX9_soundsAt, Cond.instanceMethod yX9_soundsAt, Cond.selects RX9 yX9_soundsAt yX9_soundsAt, Cond.code yX9_soundsAt cX9_soundsAt 3 (some .int), Cond.methodLink RX9 70 yX9_canSound, Cond.instanceMethod yX9_canSound, Cond.selects RX9 yX9_canSound yX9_canSound, Cond.code yX9_canSound cX9_canSound 3 (some .boolean), Cond.methodLink RX9 66 yX9_isHeld, Cond.instanceMethod yX9_isHeld, Cond.selects RX9 yX9_isHeld yX9_isHeld, Cond.code yX9_isHeld cX9_isHeld 4 (some .boolean)]
def wsL_law_r20 : List Cond := [Cond.methodLink RX9 63 yX9_swingAt, Cond.instanceMethod yX9_swingAt, Cond.selects RX9 yX9_swingAt yX9_swingAt, Cond.code yX9_swingAt cX9_swingAt 3 (some .int), Cond.methodLink RX9 110 yX9_stroke, Cond.instanceMethod yX9_stroke, Cond.selects RX9 yX9_stroke yX9_stroke, Cond.code yX9_stroke cX9_stroke 6 none, Cond.methodLink RX9 83 yX9_isEdge, Cond.static yX9_isEdge, Cond.code yX9_isEdge cX9_isEdge 3 (some .boolean), Cond.methodLink RX9 86 yX9_calmest, Cond.instanceMethod yX9_calmest, Cond.selects RX9 yX9_calmest yX9_calmest, Cond.code yX9_calmest cX9_calmest 9 (some .int), Cond.methodLink RL 53 yX8_type, Cond.instanceMethod yX8_type, Cond.selects RX8 yX8_type yX8_type, Cond.code yX8_type cX8_type 2 (some .int), Cond.methodLink RX8 175 yX6_append, Cond.instanceMethod yX6_append, Cond.selects RX6 yX6_append yX6_append, Cond.code yX6_append cX6_append 2 none, Cond.methodLink RL 57 yX9_type]
def wsL_law_r21 : List Cond := [Cond.instanceMethod yX9_type, Cond.selects RX9 yX9_type yX9_type, Cond.code yX9_type cX9_type 2 (some .int), Cond.methodLink RL 58 yX8_clearText, Cond.instanceMethod yX8_clearText, Cond.selects RX8 yX8_clearText yX8_clearText, Cond.code yX8_clearText cX8_clearText 2 (some .int), Cond.methodLink RL 61 yX9_clearText, Cond.instanceMethod yX9_clearText, Cond.selects RX9 yX9_clearText yX9_clearText, Cond.code yX9_clearText cX9_clearText 2 (some .int), Cond.methodLink RL 62 yX8_undo, Cond.instanceMethod yX8_undo, Cond.selects RX8 yX8_undo yX8_undo, Cond.code yX8_undo cX8_undo 1 (some .int), Cond.methodLink RX8 181 yX2_takeLatest, Cond.instanceMethod yX2_takeLatest, Cond.selects RX2 yX2_takeLatest yX2_takeLatest, Cond.code yX2_takeLatest cX2_takeLatest 3 none, Cond.methodLink RL 65 yX9_undo, Cond.instanceMethod yX9_undo, Cond.selects RX9 yX9_undo yX9_undo, Cond.code yX9_undo cX9_undo 2 (some .int), Cond.methodLink RL 66 yX8_keep]
def wsL_law_r22 : List Cond := [Cond.instanceMethod yX8_keep, Cond.selects RX8 yX8_keep yX8_keep, Cond.code yX8_keep cX8_keep 1 (some .int), Cond.methodLink RX8 184 yX5_copyFrom, Cond.methodLink RL 69 yX9_keep, Cond.instanceMethod yX9_keep, Cond.selects RX9 yX9_keep yX9_keep, Cond.code yX9_keep cX9_keep 2 (some .int), Cond.fieldLink RX9 133 "BowedPlateModel" "isKept" "Z", Cond.methodLink RL 70 yX8_restore, Cond.instanceMethod yX8_restore, Cond.selects RX8 yX8_restore yX8_restore, Cond.code yX8_restore cX8_restore 1 (some .int), Cond.methodLink RL 73 yX9_restore, Cond.instanceMethod yX9_restore, Cond.selects RX9 yX9_restore yX9_restore, Cond.code yX9_restore cX9_restore 2 (some .int), Cond.methodLink RL 74 yX8_place, Cond.instanceMethod yX8_place, Cond.selects RX8 yX8_place yX8_place, Cond.code yX8_place cX8_place 4 (some .int), Cond.methodLink RX8 193 yX7_swingAt, Cond.methodLink RX8 197 yX1_isStill, Cond.instanceMethod yX1_isStill]
def wsL_law_r23 : List Cond := [Cond.selects RX1 yX1_isStill yX1_isStill, Cond.code yX1_isStill cX1_isStill 4 (some .boolean), Cond.methodLink RX1 31 yX7_swingAt, Cond.methodLink RX8 201 yX8_asNumber, Cond.static yX8_asNumber, Cond.code yX8_asNumber cX8_asNumber 1 (some .int), Cond.methodLink RX8 205 yX8_orNone, Cond.static yX8_orNone, Cond.code yX8_orNone cX8_orNone 1 (some .int), Cond.methodLink RL 77 yX9_place, Cond.instanceMethod yX9_place, Cond.selects RX9 yX9_place yX9_place, Cond.code yX9_place cX9_place 5 (some .int), Cond.methodLink RX9 136 yX9_isStill, Cond.instanceMethod yX9_isStill, Cond.selects RX9 yX9_isStill yX9_isStill, Cond.code yX9_isStill cX9_isStill 3 (some .boolean), Cond.methodLink RL 78 yX8_way, Cond.instanceMethod yX8_way, Cond.selects RX8 yX8_way yX8_way, Cond.code yX8_way cX8_way 3 (some .int), Cond.methodLink RX8 217 yX7_noteOf, Cond.instanceMethod yX7_noteOf, Cond.selects RX7 yX7_noteOf yX7_noteOf]
def wsL_law_r24 : List Cond := [Cond.code yX7_noteOf cX7_noteOf 2 (some .int), Cond.methodLink RX8 220 yX1_stillPlaces, Cond.instanceMethod yX1_stillPlaces, Cond.selects RX1 yX1_stillPlaces yX1_stillPlaces, Cond.code yX1_stillPlaces cX1_stillPlaces 4 (some .int), Cond.methodLink RX1 49 yX1_isStill, Cond.methodLink RX8 223 yX1_lines, Cond.instanceMethod yX1_lines, Cond.selects RX1 yX1_lines yX1_lines, Cond.code yX1_lines cX1_lines 4 (some .int), Cond.methodLink RX1 56 yX1_closeLine, Cond.instanceMethod yX1_closeLine, Cond.selects RX1 yX1_closeLine yX1_closeLine, Cond.code yX1_closeLine cX1_closeLine 5 none, Cond.methodLink RX1 60 yX1_reach, Cond.instanceMethod yX1_reach, Cond.selects RX1 yX1_reach yX1_reach, Cond.code yX1_reach cX1_reach 3 none, Cond.methodLink RX8 226 yX1_grainsOnLines, Cond.instanceMethod yX1_grainsOnLines, Cond.selects RX1 yX1_grainsOnLines yX1_grainsOnLines, Cond.code yX1_grainsOnLines cX1_grainsOnLines 4 (some .int), Cond.methodLink RX8 229 yX0_clampsAllow, Cond.methodLink RL 81 yX9_way]
def wsL_law_r25 : List Cond := [Cond.instanceMethod yX9_way, Cond.selects RX9 yX9_way yX9_way, Cond.code yX9_way cX9_way 3 (some .int), Cond.methodLink RX9 142 yX9_isWay, Cond.static yX9_isWay, Cond.code yX9_isWay cX9_isWay 1 (some .boolean), Cond.methodLink RX9 145 yX9_noteOf, Cond.instanceMethod yX9_noteOf, Cond.selects RX9 yX9_noteOf yX9_noteOf, Cond.code yX9_noteOf cX9_noteOf 2 (some .int), Cond.methodLink RX9 148 yX9_still, Cond.instanceMethod yX9_still, Cond.selects RX9 yX9_still yX9_still, Cond.code yX9_still cX9_still 5 (some .int), Cond.methodLink RX9 151 yX9_lines, Cond.instanceMethod yX9_lines, Cond.selects RX9 yX9_lines yX9_lines, Cond.code yX9_lines cX9_lines 4 (some .int), Cond.methodLink RX9 139 yX9_meet, Cond.instanceMethod yX9_meet, Cond.selects RX9 yX9_meet yX9_meet, Cond.code yX9_meet cX9_meet 7 none, Cond.methodLink RL 82 yX8_swing, Cond.instanceMethod yX8_swing]
def wsL_law_r26 : List Cond := [Cond.selects RX8 yX8_swing yX8_swing, Cond.code yX8_swing cX8_swing 4 (some .int), Cond.methodLink RL 85 yX9_swing, Cond.instanceMethod yX9_swing, Cond.selects RX9 yX9_swing yX9_swing, Cond.code yX9_swing cX9_swing 4 (some .int), Cond.methodLink RL 86 yX8_sounds, Cond.instanceMethod yX8_sounds, Cond.selects RX8 yX8_sounds yX8_sounds, Cond.code yX8_sounds cX8_sounds 3 (some .int), Cond.methodLink RL 89 yX9_sounds, Cond.instanceMethod yX9_sounds, Cond.selects RX9 yX9_sounds yX9_sounds, Cond.code yX9_sounds cX9_sounds 3 (some .int), Cond.methodLink RL 90 yX8_why, Cond.instanceMethod yX8_why, Cond.selects RX8 yX8_why yX8_why, Cond.code yX8_why cX8_why 4 (some .int), Cond.methodLink RX8 235 yX0_reasonOf, Cond.instanceMethod yX0_reasonOf, Cond.selects RX0 yX0_reasonOf yX0_reasonOf, Cond.code yX0_reasonOf cX0_reasonOf 4 (some .int), Cond.methodLink RX0 62 yX0_wayFor, Cond.methodLink RL 93 yX9_why]
def wsL_law_r27 : List Cond := [Cond.instanceMethod yX9_why, Cond.selects RX9 yX9_why yX9_why, Cond.code yX9_why cX9_why 5 (some .int), Cond.methodLink RL 94 yX8_possible, Cond.instanceMethod yX8_possible, Cond.selects RX8 yX8_possible yX8_possible, Cond.code yX8_possible cX8_possible 2 (some .int), Cond.methodLink RX8 238 yX0_findPossible, Cond.instanceMethod yX0_findPossible, Cond.selects RX0 yX0_findPossible yX0_findPossible, Cond.code yX0_findPossible cX0_findPossible 2 none, Cond.methodLink RX0 66 yX0_takesBow, Cond.instanceMethod yX0_takesBow, Cond.selects RX0 yX0_takesBow yX0_takesBow, Cond.code yX0_takesBow cX0_takesBow 4 (some .boolean), Cond.methodLink RL 97 yX9_possible, Cond.instanceMethod yX9_possible, Cond.selects RX9 yX9_possible yX9_possible, Cond.code yX9_possible cX9_possible 4 (some .int), Cond.methodLink RX9 154 yX9_isPossible, Cond.instanceMethod yX9_isPossible, Cond.selects RX9 yX9_isPossible yX9_isPossible, Cond.code yX9_isPossible cX9_isPossible 4 (some .boolean), Cond.methodLink RL 98 yX8_waiting]
def wsL_law_r28 : List Cond := [Cond.instanceMethod yX8_waiting, Cond.selects RX8 yX8_waiting yX8_waiting, Cond.code yX8_waiting cX8_waiting 3 (some .int), Cond.methodLink RL 101 yX9_waiting, Cond.instanceMethod yX9_waiting, Cond.selects RX9 yX9_waiting yX9_waiting, Cond.code yX9_waiting cX9_waiting 4 (some .int), Cond.methodLink RL 102 yX8_sand, Cond.instanceMethod yX8_sand, Cond.selects RX8 yX8_sand yX8_sand, Cond.code yX8_sand cX8_sand 5 (some .int), Cond.methodLink RL 106 yX9_sand, Cond.instanceMethod yX9_sand, Cond.selects RX9 yX9_sand yX9_sand, Cond.code yX9_sand cX9_sand 5 (some .int), Cond.methodLink RL 107 yX8_count, Cond.instanceMethod yX8_count, Cond.selects RX8 yX8_count yX8_count, Cond.code yX8_count cX8_count 2 (some .int), Cond.methodLink RX8 267 yX5_mostGrains, Cond.instanceMethod yX5_mostGrains, Cond.selects RX5 yX5_mostGrains yX5_mostGrains, Cond.code yX5_mostGrains cX5_mostGrains 3 (some .int), Cond.methodLink RX5 71 Lib.Math.max.name]
def wsL_law_r29 : List Cond := [Cond.methodLink RL 110 yX9_count, Cond.instanceMethod yX9_count, Cond.selects RX9 yX9_count yX9_count, Cond.code yX9_count cX9_count 2 (some .int), Cond.methodLink RX9 157 yX9_possibles, Cond.instanceMethod yX9_possibles, Cond.selects RX9 yX9_possibles yX9_possibles, Cond.code yX9_possibles cX9_possibles 3 (some .int), Cond.methodLink RX9 160 yX9_mostGrains, Cond.instanceMethod yX9_mostGrains, Cond.selects RX9 yX9_mostGrains yX9_mostGrains, Cond.code yX9_mostGrains cX9_mostGrains 3 (some .int), Cond.methodLink RL 111 yX8_clampAt, Cond.instanceMethod yX8_clampAt, Cond.selects RX8 yX8_clampAt yX8_clampAt, Cond.code yX8_clampAt cX8_clampAt 3 (some .int), Cond.methodLink RL 115 yX9_clampAt, Cond.instanceMethod yX9_clampAt, Cond.selects RX9 yX9_clampAt yX9_clampAt, Cond.code yX9_clampAt cX9_clampAt 3 (some .int)]
def wsL_law : List Cond := (wsL_law_r1 ++ (wsL_law_r2 ++ (wsL_law_r3 ++ (wsL_law_r4 ++ (wsL_law_r5 ++ (wsL_law_r6 ++ (wsL_law_r7 ++ (wsL_law_r8 ++ (wsL_law_r9 ++ (wsL_law_r10 ++ (wsL_law_r11 ++ (wsL_law_r12 ++ (wsL_law_r13 ++ (wsL_law_r14 ++ (wsL_law_r15 ++ (wsL_law_r16 ++ (wsL_law_r17 ++ (wsL_law_r18 ++ (wsL_law_r19 ++ (wsL_law_r20 ++ (wsL_law_r21 ++ (wsL_law_r22 ++ (wsL_law_r23 ++ (wsL_law_r24 ++ (wsL_law_r25 ++ (wsL_law_r26 ++ (wsL_law_r27 ++ (wsL_law_r28 ++ wsL_law_r29)))))))))))))))))))))))))))) ++ wsX80 ++ wsX90 ++ wsX70 ++ wsX50 ++ wsX00 ++ wsX10 ++ wsX30 ++ wsX60 ++ wsX20 ++ wsX40 ++ ([] : List Cond)
abbrev vwCl : List vw_C := [(RX0, TX0, 5), (RX1, TX1, 5), (RX2, TX2, 3), (RX3, TX3, 5), (RX4, TX4, 5), (RX5, TX5, 12), (RX6, TX6, 4), (RX7, TX7, 5), (RX8, TX8, 9), (RX9, TX9, 16)]
end
section
/-! the links to private members of nest mates -/
def NWf : List (String × Nat × String × String × String × String) := [(RX8, 208, RX7, "lesser", "[I", RX8), (RX8, 211, RX7, "greater", "[I", RX8), (RX8, 214, RX7, "sign", "[I", RX8), (RX8, 247, RX4, "sides", "[I", RX8), (RX8, 250, RX4, "alongs", "[I", RX8), (RX8, 253, RX4, "strokes", "[I", RX8), (RX6, 31, RX4, "size", "I", RX8), (RX8, 133, RX4, "size", "I", RX8), (RX5, 58, RX8, "FIRST_SETTING", "[I", RX8), (RX8, 79, RX5, "grains", "[I", RX8), (RX1, 53, RX5, "grains", "[I", RX8), (RX3, 64, RX5, "grains", "[I", RX8), (RX0, 36, RX5, "clampColumns", "[I", RX8), (RX8, 104, RX5, "clampColumns", "[I", RX8), (RX0, 39, RX5, "clampRows", "[I", RX8), (RX8, 107, RX5, "clampRows", "[I", RX8), (RX0, 31, RX5, "clamps", "I", RX8), (RX8, 98, RX5, "clamps", "I", RX8), (RX1, 37, RX5, "settings", "[I", RX8), (RX0, 48, RX5, "settings", "[I", RX8), (RX3, 59, RX5, "settings", "[I", RX8), (RX8, 123, RX5, "settings", "[I", RX8), (RX8, 129, RX5, "piece", "LBowedPlate$Piece;", RX8), (RX8, 187, RX5, "lastWay", "I", RX8), (RX8, 83, RX5, "strewn", "I", RX8), (RX8, 91, RX5, "swept", "I", RX8), (RX3, 75, RX5, "fallen", "I", RX8), (RX8, 259, RX5, "fallen", "I", RX8), (RX8, 262, RX5, "strokes", "I", RX8), (RX8, 264, RX5, "mutes", "I", RX8), (RX8, 244, RX0, "possibleWay", "[I", RX8), (RX8, 241, RX0, "possibleWays", "I", RX8), (RX8, 172, RX6, "length", "I", RX8), (RX8, 149, RX6, "piece", "LBowedPlate$Piece;", RX8), (RX8, 178, RX2, "held", "I", RX8)]
def NWm : List (String × Nat × MethodName × String) := [(RX8, 48, yX6_init, RX8), (RX7, 36, yX8_isWay, RX8), (RX7, 40, yX8_isPlace, RX8), (RX3, 29, yX8_columnOf, RX8), (RX3, 33, yX8_rowOf, RX8), (RX3, 49, yX8_placeOf, RX8), (RX3, 55, yX8_isPlace, RX8), (RX1, 42, yX8_columnOf, RX8), (RX1, 46, yX8_rowOf, RX8), (RX1, 64, yX8_isPlace, RX8), (RX1, 68, yX8_placeOf, RX8)]
end
section
/-! the packed walk: one predicate for 'the machine stands at pc with these locals, this stack, this world', a row an instruction -/
abbrev Fx : Type := Program × Launch × Env × Room × State × MethodId × Array Value × List Frame × Method × Code × (State → Prop) × Nat × va_G × (Nat × Nat × Nat) × (Nat → Prop)
abbrev TY (D : va_G) : List (ClassId × FieldType) := [(D.1 11, .int), (D.1 12, .boolean), (D.1 10, .char), (D.1 13, .object RX5)]
def zF : Nat → Int32 := fun j => match j with | 0 => 20 | 1 => 60 | 2 => 15 | _ => 150
def zL : Nat → Int32 := fun j => match j with | 0 => 0 | 1 => 1 | 2 => 0 | _ => 50
def zM : Nat → Int32 := fun j => match j with | 0 => 60 | 1 => 150 | 2 => 60 | _ => 201
def ZT (z : Nat × Nat × Nat) (A : Nat → Prop) (U : State) (H : Heap) : Prop :=
  (va_Z RX8 "FIRST_SETTING" "[I" (.ref z.1) A U H ∧ va_T .int z.1 4 (fun j => .int (zF j)) A U H) ∧ (va_Z RX8 "LEAST_SETTING" "[I" (.ref z.2.1) A U H ∧ va_T .int z.2.1 4 (fun j => .int (zL j)) A U H) ∧ (va_Z RX8 "MOST_SETTING" "[I" (.ref z.2.2) A U H ∧ va_T .int z.2.2 4 (fun j => .int (zM j)) A U H)
theorem ZT.moved {z : Nat × Nat × Nat} {A : Nat → Prop} {u U : State} {H : Heap} (hvm : u.vm.Alike U.vm) (h : ZT z A u H) : ZT z A U H :=
  ⟨⟨h.1.1.moved hvm, h.1.2.moved hvm⟩, ⟨h.2.1.1.moved hvm, h.2.1.2.moved hvm⟩, ⟨h.2.2.1.moved hvm, h.2.2.2.moved hvm⟩⟩
theorem ZT.kept {z : Nat × Nat × Nat} {A : Nat → Prop} {U : State} {H H1 : Heap} (h : ZT z A U H) (hq : ∀ a : Nat, a < H.size → ¬ A a → H1[a]? = H[a]?) : ZT z A U H1 :=
  ⟨⟨h.1.1.kept hq, h.1.2.kept hq⟩, ⟨h.2.1.1.kept hq, h.2.1.2.kept hq⟩, ⟨h.2.2.1.kept hq, h.2.2.2.kept hq⟩⟩
theorem ZT.narrow {z : Nat × Nat × Nat} {A B : Nat → Prop} {U : State} {H : Heap} (h : ZT z A U H) (hAB : ∀ q, B q → A q) : ZT z B U H :=
  ⟨⟨h.1.1.narrow hAB, h.1.2.narrow hAB⟩, ⟨h.2.1.1.narrow hAB, h.2.1.2.narrow hAB⟩, ⟨h.2.2.1.narrow hAB, h.2.2.2.narrow hAB⟩⟩
/-- the tables' part of a world: the classes, the array classes, the links to nest mates -/
def EN (D : va_G) (U : State) : Prop := va_K D vwCl (TY D) U ∧ (∀ q ∈ NWf, va_Nw (.fieldLinkNest q.1 q.2.1 q.2.2.1 q.2.2.2.1 q.2.2.2.2.1 q.2.2.2.2.2) U) ∧ (∀ q ∈ NWm, va_Nw (.methodLinkNest q.1 q.2.1 q.2.2.1 q.2.2.2) U)
theorem EN.warm {D : va_G} {s U : State} (hW : s.WarmedH U.vm) (h : EN D s) : EN D U :=
  ⟨va_K.moved hW.alike h.1, fun q hq => va_Nw.warmF hW (h.2.1 q hq), fun q hq => va_Nw.warmM hW (h.2.2 q hq)⟩
theorem EN.same {D : va_G} {s U : State} (hvm : s.vm = U.vm) (h : EN D s) : EN D U :=
  ⟨va_K.moved (hvm ▸ Vm.Alike.refl s.vm) h.1, fun q hq => va_Nw.same rfl hvm (h.2.1 q hq), fun q hq => va_Nw.same rfl hvm (h.2.2 q hq)⟩
def CP (D : va_G) (z : Nat × Nat × Nat) (av : List Value) (win : va_W) (sz : Nat) : Array Value → State → Prop := fun v U =>
  v = av.toArray ∧ U.heap.size = sz ∧ va_P D vwCl win U.heap ∧ EN D U ∧ va_D (fun _ => True) win ∧ ZT z (va_A win sz) U U.heap
def CQ (D : va_G) (win : va_W) (post : Option Value → va_W → Prop) (sz : Nat) : Array Value → State → Outcome → State → Prop := fun _ st oc t =>
  (∃ (r : Option Value) (u : va_W), oc = .returned r ∧ post r u ∧ va_P D vwCl u t.heap ∧ va_D (va_A win sz) u) ∧ va_F (va_A win sz) st t
/-- a contract: from these arguments and this world the method comes to an answer and a world of post -/
def CM (l : Launch) (y : MethodName) (Ts : List Cond) (rm : Room) (D : va_G) (z : Nat × Nat × Nat) (av : List Value) (win : va_W) (post : Option Value → va_W → Prop) (mc ms : Nat) : Prop :=
  ∀ sz, Met l y Ts rm (CP D z av win sz) (CQ D win post sz) mc ms (va_A win sz)
def G (X : Fx) (k n pc : Nat) (L : List (Nat × Value)) (st : List Value) (ws : va_W) : Prop := match X with
  | (p, l, e, R, s, m, args, below, meth, c, Q, nL, D, _, A) => ∀ (ls : Array Slot) (H : Heap) (locs : List Loc), lv_has ls nL L → va_P D vwCl ws H → va_D A ws → va_S A s.heap H locs → W p l e R s m args below meth c H locs k n Q (F0 m pc ls st)
def Ok (X : Fx) (l : Launch) (D : va_G) (z : Nat × Nat × Nat) (cc : ByteArray) (own : String) (Ts : List Cond) (nL : Nat) (R : Room) (ini : Bool) : Prop := match X with
  | (p, l', _, R', s, m, args, _, meth, c, _, nL', D', z', A) => p.tables.exec = Jvm.exec ∧ c.code = cc ∧ c.maxLocals = nL ∧ s.vm.findClass own = some m.cls ∧ (∀ w ∈ Ts, w.before args s = true) ∧ EN D s ∧ (∀ q, s.heap.size ≤ q → A q) ∧ ZT z A s s.heap ∧ meth.locks = false ∧ l' = l ∧ D' = D ∧ z' = z ∧ nL' = nL ∧ R' = R ∧ (ini = true → meth.name = "<init>")
section GR
variable {X : Fx} {l : Launch} {D : va_G} {z : Nat × Nat × Nat} {cc : ByteArray} {own : String} {Ts : List Cond} {nL : Nat} {R : Room} {ini : Bool} {u v pc : Nat} {L L' : List (Nat × Value)} {st : List Value} {ws ws' : va_W}
theorem g_iload (O : Ok X l D z cc own Ts nL R ini) {i : Nat} {x : Int32} (hdg : decode cc pc = .ok (.iload i, 2)) (k : Nat) (hl : L[k]? = some (i, .int x)) (kk : G X u v (pc + 2) L (.int x :: st) ws) : G X u v pc L st ws := by
  obtain ⟨p, l', e, R', s, m, args, below, meth, c, Q, nL', D', z', A⟩ := X
  obtain ⟨hx, hb, hml, hown, hts, hE, hA, hZ, hlk, rfl, rfl, rfl, rfl, rfl, hin⟩ := O
  intro ls H locs hL hP hD hS
  exact lv_iload hx hb hdg (lv_at hL k hl) (kk ls H locs hL hP hD hS)
theorem g_iload_n (O : Ok X l D z cc own Ts nL R ini) {i : Fin 4} {j : Nat} {x : Int32} (hdg : decode cc pc = .ok (.iload_n i, 1)) (k : Nat) (hi : (i : Nat) = j) (hl : L[k]? = some (j, .int x)) (kk : G X u v (pc + 1) L (.int x :: st) ws) : G X u v pc L st ws := by
  obtain ⟨p, l', e, R', s, m, args, below, meth, c, Q, nL', D', z', A⟩ := X
  obtain ⟨hx, hb, hml, hown, hts, hE, hA, hZ, hlk, rfl, rfl, rfl, rfl, rfl, hin⟩ := O
  intro ls H locs hL hP hD hS
  exact lv_iload_n hx hb hdg hi (lv_at hL k hl) (kk ls H locs hL hP hD hS)
theorem g_aload_n (O : Ok X l D z cc own Ts nL R ini) {i : Fin 4} {j : Nat} {x : Nat} (hdg : decode cc pc = .ok (.aload_n i, 1)) (k : Nat) (hi : (i : Nat) = j) (hl : L[k]? = some (j, .ref x)) (kk : G X u v (pc + 1) L (.ref x :: st) ws) : G X u v pc L st ws := by
  obtain ⟨p, l', e, R', s, m, args, below, meth, c, Q, nL', D', z', A⟩ := X
  obtain ⟨hx, hb, hml, hown, hts, hE, hA, hZ, hlk, rfl, rfl, rfl, rfl, rfl, hin⟩ := O
  intro ls H locs hL hP hD hS
  exact lv_aload_n hx hb hdg hi (lv_at hL k hl) (kk ls H locs hL hP hD hS)
theorem g_istore (O : Ok X l D z cc own Ts nL R ini) {i : Nat} {x : Int32} (hdg : decode cc pc = .ok (.istore i, 2)) (hn : i < nL) (ks : List Nat) (hl : lv_pick ((i, Value.int x) :: L.filter (fun q => !(q.1 == i) && !(q.1 + 1 == i && q.2.category == 2))) ks = L') (kk : G X u v (pc + 2) L' st ws) : G X u v pc L (.int x :: st) ws := by
  obtain ⟨p, l', e, R', s, m, args, below, meth, c, Q, nL', D', z', A⟩ := X
  obtain ⟨hx, hb, hml, hown, hts, hE, hA, hZ, hlk, rfl, rfl, rfl, rfl, rfl, hin⟩ := O
  intro ls H locs hL hP hD hS
  exact lv_istore hx hb hdg hL hn rfl (fun ls' hl' => kk ls' H locs (lv_sub hl' ks hl) hP hD hS)
theorem g_istore_n (O : Ok X l D z cc own Ts nL R ini) {i : Fin 4} {j : Nat} {x : Int32} (hdg : decode cc pc = .ok (.istore_n i, 1)) (hi : (i : Nat) = j) (hn : j < nL) (ks : List Nat) (hl : lv_pick ((j, Value.int x) :: L.filter (fun q => !(q.1 == j) && !(q.1 + 1 == j && q.2.category == 2))) ks = L') (kk : G X u v (pc + 1) L' st ws) : G X u v pc L (.int x :: st) ws := by
  obtain ⟨p, l', e, R', s, m, args, below, meth, c, Q, nL', D', z', A⟩ := X
  obtain ⟨hx, hb, hml, hown, hts, hE, hA, hZ, hlk, rfl, rfl, rfl, rfl, rfl, hin⟩ := O
  intro ls H locs hL hP hD hS
  exact lv_istore_n hx hb hdg hi hL hn rfl (fun ls' hl' => kk ls' H locs (lv_sub hl' ks hl) hP hD hS)
theorem g_astore_n (O : Ok X l D z cc own Ts nL R ini) {i : Fin 4} {j : Nat} {x : Nat} (hdg : decode cc pc = .ok (.astore_n i, 1)) (hi : (i : Nat) = j) (hn : j < nL) (ks : List Nat) (hl : lv_pick ((j, Value.ref x) :: L.filter (fun q => !(q.1 == j) && !(q.1 + 1 == j && q.2.category == 2))) ks = L') (kk : G X u v (pc + 1) L' st ws) : G X u v pc L (.ref x :: st) ws := by
  obtain ⟨p, l', e, R', s, m, args, below, meth, c, Q, nL', D', z', A⟩ := X
  obtain ⟨hx, hb, hml, hown, hts, hE, hA, hZ, hlk, rfl, rfl, rfl, rfl, rfl, hin⟩ := O
  intro ls H locs hL hP hD hS
  exact lv_astore_n hx hb hdg hi hL hn rfl (fun ls' hl' => kk ls' H locs (lv_sub hl' ks hl) hP hD hS)
theorem g_iinc (O : Ok X l D z cc own Ts nL R ini) {i : Nat} {n : Int} {x y : Int32} (hdg : decode cc pc = .ok (.iinc i n, 3)) (k : Nat) (hk : L[k]? = some (i, .int x)) (hv : x + Int32.ofInt n = y) (hn : i < nL) (ks : List Nat) (hl : lv_pick ((i, Value.int y) :: L.filter (fun q => !(q.1 == i) && !(q.1 + 1 == i && q.2.category == 2))) ks = L') (kk : G X u v (pc + 3) L' st ws) : G X u v pc L st ws := by
  obtain ⟨p, l', e, R', s, m, args, below, meth, c, Q, nL', D', z', A⟩ := X
  obtain ⟨hx, hb, hml, hown, hts, hE, hA, hZ, hlk, rfl, rfl, rfl, rfl, rfl, hin⟩ := O
  intro ls H locs hL hP hD hS
  exact lv_iinc hx hb hdg hL hk hv hn rfl (fun ls' hl' => kk ls' H locs (lv_sub hl' ks hl) hP hD hS)
theorem g_iconst (O : Ok X l D z cc own Ts nL R ini) {n : Int} {x : Int32} (hdg : decode cc pc = .ok (.iconst n, 1)) (hv : Int32.ofInt n = x) (kk : G X u v (pc + 1) L (.int x :: st) ws) : G X u v pc L st ws := by
  obtain ⟨p, l', e, R', s, m, args, below, meth, c, Q, nL', D', z', A⟩ := X
  obtain ⟨hx, hb, hml, hown, hts, hE, hA, hZ, hlk, rfl, rfl, rfl, rfl, rfl, hin⟩ := O
  intro ls H locs hL hP hD hS
  exact lv_iconst hx hb hdg hv (kk ls H locs hL hP hD hS)
theorem g_bipush (O : Ok X l D z cc own Ts nL R ini) {n : Int} {x : Int32} (hdg : decode cc pc = .ok (.bipush n, 2)) (hv : (Int8.ofInt n).toInt32 = x) (kk : G X u v (pc + 2) L (.int x :: st) ws) : G X u v pc L st ws := by
  obtain ⟨p, l', e, R', s, m, args, below, meth, c, Q, nL', D', z', A⟩ := X
  obtain ⟨hx, hb, hml, hown, hts, hE, hA, hZ, hlk, rfl, rfl, rfl, rfl, rfl, hin⟩ := O
  intro ls H locs hL hP hD hS
  exact lv_bipush hx hb hdg hv (kk ls H locs hL hP hD hS)
theorem g_sipush (O : Ok X l D z cc own Ts nL R ini) {n : Int} {x : Int32} (hdg : decode cc pc = .ok (.sipush n, 3)) (hv : (Int16.ofInt n).toInt32 = x) (kk : G X u v (pc + 3) L (.int x :: st) ws) : G X u v pc L st ws := by
  obtain ⟨p, l', e, R', s, m, args, below, meth, c, Q, nL', D', z', A⟩ := X
  obtain ⟨hx, hb, hml, hown, hts, hE, hA, hZ, hlk, rfl, rfl, rfl, rfl, rfl, hin⟩ := O
  intro ls H locs hL hP hD hS
  exact lv_sipush hx hb hdg hv (kk ls H locs hL hP hD hS)
theorem g_goto (O : Ok X l D z cc own Ts nL R ini) {off : Int} {tgt : Nat} (hdg : decode cc pc = .ok (.goto off, 3)) (ht : (pc : Int) + off = (tgt : Int)) (kk : G X u v tgt L st ws) : G X u v pc L st ws := by
  obtain ⟨p, l', e, R', s, m, args, below, meth, c, Q, nL', D', z', A⟩ := X
  obtain ⟨hx, hb, hml, hown, hts, hE, hA, hZ, hlk, rfl, rfl, rfl, rfl, rfl, hin⟩ := O
  intro ls H locs hL hP hD hS
  exact lv_goto hx hb hdg ht (kk ls H locs hL hP hD hS)
theorem g_dup (O : Ok X l D z cc own Ts nL R ini) {va : Value} (hdg : decode cc pc = .ok (.dup, 1)) (hva : va.category = 1) (kk : G X u v (pc + 1) L (va :: va :: st) ws) : G X u v pc L (va :: st) ws := by
  obtain ⟨p, l', e, R', s, m, args, below, meth, c, Q, nL', D', z', A⟩ := X
  obtain ⟨hx, hb, hml, hown, hts, hE, hA, hZ, hlk, rfl, rfl, rfl, rfl, rfl, hin⟩ := O
  intro ls H locs hL hP hD hS
  exact lv_dup hx hb hdg hva (kk ls H locs hL hP hD hS)
/-- what is known at a place may be put otherwise -/
theorem g_perm (is : List Nat) (hs : is.map (fun i => ws[i]?) = ws'.map some) (hn : va_nd is = true) (kk : G X u v pc L st ws') : G X u v pc L st ws := by
  obtain ⟨p, l', e, R', s, m, args, below, meth, c, Q, nL', D', z', A⟩ := X
  intro ls H locs hL hP hD hS
  refine kk ls H locs hL (hP.sub is ?_) (hD.sub is hn hs) hS
  have h1 : (is.map (fun i => ws[i]?)).filterMap id = (ws'.map some).filterMap id := by rw [hs]
  rw [List.filterMap_map, List.filterMap_map] at h1
  simpa using h1
theorem g_locals (ks : List Nat) (hl : lv_pick L ks = L') (kk : G X u v pc L' st ws) : G X u v pc L st ws := by
  obtain ⟨p, l', e, R', s, m, args, below, meth, c, Q, nL', D', z', A⟩ := X
  intro ls H locs hL hP hD hS
  exact kk ls H locs (lv_sub hL ks hl) hP hD hS
theorem g_eq {st' : List Value} (hs : st = st') (hL : L = L') (hw : ws = ws') (kk : G X u v pc L' st' ws') : G X u v pc L st ws := by
  subst hs; subst hL; subst hw; exact kk
theorem g_pc {pc' : Nat} (h : pc = pc') (kk : G X u v pc' L st ws) : G X u v pc L st ws := h ▸ kk
end GR
end
section
/-! the packed walk, its other rows -/
section GR
variable {X : Fx} {l : Launch} {D : va_G} {z : Nat × Nat × Nat} {cc : ByteArray} {own : String} {Ts : List Cond} {nL : Nat} {R : Room} {ini : Bool} {u v pc : Nat} {L L' : List (Nat × Value)} {st : List Value} {ws ws' : va_W}
theorem g_iadd (O : Ok X l D z cc own Ts nL R ini) {x y : Int32} (hdg : decode cc pc = .ok (.iadd, 1)) (kk : G X u v (pc + 1) L (.int (x + y) :: st) ws) : G X u v pc L (.int y :: .int x :: st) ws := by
  obtain ⟨p, l', e, R', s, m, args, below, meth, c, Q, nL', D', z', A⟩ := X
  obtain ⟨hx, hb, hml, hown, hts, hE, hA, hZ, hlk, rfl, rfl, rfl, rfl, rfl, hin⟩ := O
  intro ls H locs hL hP hD hS
  exact lv_iadd hx hb hdg (kk ls H locs hL hP hD hS)
theorem g_isub (O : Ok X l D z cc own Ts nL R ini) {x y : Int32} (hdg : decode cc pc = .ok (.isub, 1)) (kk : G X u v (pc + 1) L (.int (x - y) :: st) ws) : G X u v pc L (.int y :: .int x :: st) ws := by
  obtain ⟨p, l', e, R', s, m, args, below, meth, c, Q, nL', D', z', A⟩ := X
  obtain ⟨hx, hb, hml, hown, hts, hE, hA, hZ, hlk, rfl, rfl, rfl, rfl, rfl, hin⟩ := O
  intro ls H locs hL hP hD hS
  exact lv_isub hx hb hdg (kk ls H locs hL hP hD hS)
theorem g_imul (O : Ok X l D z cc own Ts nL R ini) {x y : Int32} (hdg : decode cc pc = .ok (.imul, 1)) (kk : G X u v (pc + 1) L (.int (x * y) :: st) ws) : G X u v pc L (.int y :: .int x :: st) ws := by
  obtain ⟨p, l', e, R', s, m, args, below, meth, c, Q, nL', D', z', A⟩ := X
  obtain ⟨hx, hb, hml, hown, hts, hE, hA, hZ, hlk, rfl, rfl, rfl, rfl, rfl, hin⟩ := O
  intro ls H locs hL hP hD hS
  exact lv_imul hx hb hdg (kk ls H locs hL hP hD hS)
theorem g_iand (O : Ok X l D z cc own Ts nL R ini) {x y : Int32} (hdg : decode cc pc = .ok (.iand, 1)) (kk : G X u v (pc + 1) L (.int (x &&& y) :: st) ws) : G X u v pc L (.int y :: .int x :: st) ws := by
  obtain ⟨p, l', e, R', s, m, args, below, meth, c, Q, nL', D', z', A⟩ := X
  obtain ⟨hx, hb, hml, hown, hts, hE, hA, hZ, hlk, rfl, rfl, rfl, rfl, rfl, hin⟩ := O
  intro ls H locs hL hP hD hS
  exact lv_iand hx hb hdg (kk ls H locs hL hP hD hS)
theorem g_idiv (O : Ok X l D z cc own Ts nL R ini) {x y : Int32} (hdg : decode cc pc = .ok (.idiv, 1)) (hne : ¬ y = 0) (kk : G X u v (pc + 1) L (.int (x / y) :: st) ws) : G X u v pc L (.int y :: .int x :: st) ws := by
  obtain ⟨p, l', e, R', s, m, args, below, meth, c, Q, nL', D', z', A⟩ := X
  obtain ⟨hx, hb, hml, hown, hts, hE, hA, hZ, hlk, rfl, rfl, rfl, rfl, rfl, hin⟩ := O
  intro ls H locs hL hP hD hS
  exact lv_idiv hx hb hdg hne (kk ls H locs hL hP hD hS)
theorem g_irem (O : Ok X l D z cc own Ts nL R ini) {x y : Int32} (hdg : decode cc pc = .ok (.irem, 1)) (hne : ¬ y = 0) (kk : G X u v (pc + 1) L (.int (x - x / y * y) :: st) ws) : G X u v pc L (.int y :: .int x :: st) ws := by
  obtain ⟨p, l', e, R', s, m, args, below, meth, c, Q, nL', D', z', A⟩ := X
  obtain ⟨hx, hb, hml, hown, hts, hE, hA, hZ, hlk, rfl, rfl, rfl, rfl, rfl, hin⟩ := O
  intro ls H locs hL hP hD hS
  exact lv_irem hx hb hdg hne (kk ls H locs hL hP hD hS)
theorem g_ineg (O : Ok X l D z cc own Ts nL R ini) {x : Int32} (hdg : decode cc pc = .ok (.ineg, 1)) (kk : G X u v (pc + 1) L (.int (-x) :: st) ws) : G X u v pc L (.int x :: st) ws := by
  obtain ⟨p, l', e, R', s, m, args, below, meth, c, Q, nL', D', z', A⟩ := X
  obtain ⟨hx, hb, hml, hown, hts, hE, hA, hZ, hlk, rfl, rfl, rfl, rfl, rfl, hin⟩ := O
  intro ls H locs hL hP hD hS
  exact lv_ineg hx hb hdg (kk ls H locs hL hP hD hS)
theorem g_i2c (O : Ok X l D z cc own Ts nL R ini) {x y : Int32} (hdg : decode cc pc = .ok (.i2c, 1)) (hv : (x.toUInt32 % 65536).toInt32 = y) (kk : G X u v (pc + 1) L (.int y :: st) ws) : G X u v pc L (.int x :: st) ws := by
  obtain ⟨p, l', e, R', s, m, args, below, meth, c, Q, nL', D', z', A⟩ := X
  obtain ⟨hx, hb, hml, hown, hts, hE, hA, hZ, hlk, rfl, rfl, rfl, rfl, rfl, hin⟩ := O
  intro ls H locs hL hP hD hS
  exact lv_i2c hx hb hdg hv (kk ls H locs hL hP hD hS)
theorem g_dup2 (O : Ok X l D z cc own Ts nL R ini) {va vb : Value} (hdg : decode cc pc = .ok (.dup2, 1)) (hva : va.category = 1) (hvb : vb.category = 1) (kk : G X u v (pc + 1) L (va :: vb :: va :: vb :: st) ws) : G X u v pc L (va :: vb :: st) ws := by
  obtain ⟨p, l', e, R', s, m, args, below, meth, c, Q, nL', D', z', A⟩ := X
  obtain ⟨hx, hb, hml, hown, hts, hE, hA, hZ, hlk, rfl, rfl, rfl, rfl, rfl, hin⟩ := O
  intro ls H locs hL hP hD hS
  exact lv_dup2_11 hx hb hdg hva hvb (kk ls H locs hL hP hD hS)
theorem g_iaddN (O : Ok X l D z cc own Ts nL R ini) {a b : Nat} (hdg : decode cc pc = .ok (.iadd, 1)) (kk : G X u v (pc + 1) L (.int (nI (a + b)) :: st) ws) : G X u v pc L (.int (nI b) :: .int (nI a) :: st) ws := g_iadd O hdg (by rw [nI_add]; exact kk)
theorem g_imulN (O : Ok X l D z cc own Ts nL R ini) {a b : Nat} (hdg : decode cc pc = .ok (.imul, 1)) (kk : G X u v (pc + 1) L (.int (nI (a * b)) :: st) ws) : G X u v pc L (.int (nI b) :: .int (nI a) :: st) ws := g_imul O hdg (by rw [pk_mul]; exact kk)
theorem g_isubN (O : Ok X l D z cc own Ts nL R ini) {a b : Nat} (h : b ≤ a) (hdg : decode cc pc = .ok (.isub, 1)) (kk : G X u v (pc + 1) L (.int (nI (a - b)) :: st) ws) : G X u v pc L (.int (nI b) :: .int (nI a) :: st) ws := g_isub O hdg (by rw [pk_sub h]; exact kk)
theorem g_idivN (O : Ok X l D z cc own Ts nL R ini) {a b : Nat} (ha : a < 2147483648) (hb0 : 0 < b) (hb1 : b < 2147483648) (hdg : decode cc pc = .ok (.idiv, 1)) (kk : G X u v (pc + 1) L (.int (nI (a / b)) :: st) ws) : G X u v pc L (.int (nI b) :: .int (nI a) :: st) ws := g_idiv O hdg (nI_ne0 hb0 hb1) (by rw [pk_div ha hb0 hb1]; exact kk)
theorem g_iremN (O : Ok X l D z cc own Ts nL R ini) {a b : Nat} (ha : a < 2147483648) (hb0 : 0 < b) (hb1 : b < 2147483648) (hdg : decode cc pc = .ok (.irem, 1)) (kk : G X u v (pc + 1) L (.int (nI (a % b)) :: st) ws) : G X u v pc L (.int (nI b) :: .int (nI a) :: st) ws := g_irem O hdg (nI_ne0 hb0 hb1) (by rw [pk_rem ha hb0 hb1]; exact kk)
theorem g_iincN (O : Ok X l D z cc own Ts nL R ini) {i : Nat} {x : Nat} (hdg : decode cc pc = .ok (.iinc i 1, 3)) (k : Nat) (hk : L[k]? = some (i, .int (nI x))) (hn : i < nL) (ks : List Nat) (hl : lv_pick ((i, Value.int (nI (x + 1))) :: L.filter (fun q => !(q.1 == i) && !(q.1 + 1 == i && q.2.category == 2))) ks = L') (kk : G X u v (pc + 3) L' st ws) : G X u v pc L st ws := g_iinc O hdg k hk (nI_1 x) hn ks hl kk
theorem g_icmp_eq (O : Ok X l D z cc own Ts nL R ini) {x y : Int32} {off : Int} {tgt : Nat} (hdg : decode cc pc = .ok (.if_icmp .eq off, 3)) (ht : (pc : Int) + off = (tgt : Int)) (kt : x = y → G X u v tgt L st ws) (kf : ¬ x = y → G X u v (pc + 3) L st ws) : G X u v pc L (.int y :: .int x :: st) ws := by
  obtain ⟨p, l', e, R', s, m, args, below, meth, c, Q, nL', D', z', A⟩ := X
  obtain ⟨hx, hb, hml, hown, hts, hE, hA, hZ, hlk, rfl, rfl, rfl, rfl, rfl, hin⟩ := O
  intro ls H locs hL hP hD hS
  exact lv_icmp_eq hx hb hdg ht (fun h => kt h ls H locs hL hP hD hS) (fun h => kf h ls H locs hL hP hD hS)
theorem g_icmp_ne (O : Ok X l D z cc own Ts nL R ini) {x y : Int32} {off : Int} {tgt : Nat} (hdg : decode cc pc = .ok (.if_icmp .ne off, 3)) (ht : (pc : Int) + off = (tgt : Int)) (kt : ¬ x = y → G X u v tgt L st ws) (kf : x = y → G X u v (pc + 3) L st ws) : G X u v pc L (.int y :: .int x :: st) ws := by
  obtain ⟨p, l', e, R', s, m, args, below, meth, c, Q, nL', D', z', A⟩ := X
  obtain ⟨hx, hb, hml, hown, hts, hE, hA, hZ, hlk, rfl, rfl, rfl, rfl, rfl, hin⟩ := O
  intro ls H locs hL hP hD hS
  exact lv_icmp_ne hx hb hdg ht (fun h => kt h ls H locs hL hP hD hS) (fun h => kf h ls H locs hL hP hD hS)
theorem g_icmp_lt (O : Ok X l D z cc own Ts nL R ini) {x y : Int32} {off : Int} {tgt : Nat} (hdg : decode cc pc = .ok (.if_icmp .lt off, 3)) (ht : (pc : Int) + off = (tgt : Int)) (kt : x < y → G X u v tgt L st ws) (kf : ¬ x < y → G X u v (pc + 3) L st ws) : G X u v pc L (.int y :: .int x :: st) ws := by
  obtain ⟨p, l', e, R', s, m, args, below, meth, c, Q, nL', D', z', A⟩ := X
  obtain ⟨hx, hb, hml, hown, hts, hE, hA, hZ, hlk, rfl, rfl, rfl, rfl, rfl, hin⟩ := O
  intro ls H locs hL hP hD hS
  exact lv_icmp_lt hx hb hdg ht (fun h => kt h ls H locs hL hP hD hS) (fun h => kf h ls H locs hL hP hD hS)
theorem g_icmp_ge (O : Ok X l D z cc own Ts nL R ini) {x y : Int32} {off : Int} {tgt : Nat} (hdg : decode cc pc = .ok (.if_icmp .ge off, 3)) (ht : (pc : Int) + off = (tgt : Int)) (kt : y ≤ x → G X u v tgt L st ws) (kf : ¬ y ≤ x → G X u v (pc + 3) L st ws) : G X u v pc L (.int y :: .int x :: st) ws := by
  obtain ⟨p, l', e, R', s, m, args, below, meth, c, Q, nL', D', z', A⟩ := X
  obtain ⟨hx, hb, hml, hown, hts, hE, hA, hZ, hlk, rfl, rfl, rfl, rfl, rfl, hin⟩ := O
  intro ls H locs hL hP hD hS
  exact lv_icmp_ge hx hb hdg ht (fun h => kt h ls H locs hL hP hD hS) (fun h => kf h ls H locs hL hP hD hS)
theorem g_icmp_gt (O : Ok X l D z cc own Ts nL R ini) {x y : Int32} {off : Int} {tgt : Nat} (hdg : decode cc pc = .ok (.if_icmp .gt off, 3)) (ht : (pc : Int) + off = (tgt : Int)) (kt : y < x → G X u v tgt L st ws) (kf : ¬ y < x → G X u v (pc + 3) L st ws) : G X u v pc L (.int y :: .int x :: st) ws := by
  obtain ⟨p, l', e, R', s, m, args, below, meth, c, Q, nL', D', z', A⟩ := X
  obtain ⟨hx, hb, hml, hown, hts, hE, hA, hZ, hlk, rfl, rfl, rfl, rfl, rfl, hin⟩ := O
  intro ls H locs hL hP hD hS
  exact lv_icmp_gt hx hb hdg ht (fun h => kt h ls H locs hL hP hD hS) (fun h => kf h ls H locs hL hP hD hS)
theorem g_icmp_le (O : Ok X l D z cc own Ts nL R ini) {x y : Int32} {off : Int} {tgt : Nat} (hdg : decode cc pc = .ok (.if_icmp .le off, 3)) (ht : (pc : Int) + off = (tgt : Int)) (kt : x ≤ y → G X u v tgt L st ws) (kf : ¬ x ≤ y → G X u v (pc + 3) L st ws) : G X u v pc L (.int y :: .int x :: st) ws := by
  obtain ⟨p, l', e, R', s, m, args, below, meth, c, Q, nL', D', z', A⟩ := X
  obtain ⟨hx, hb, hml, hown, hts, hE, hA, hZ, hlk, rfl, rfl, rfl, rfl, rfl, hin⟩ := O
  intro ls H locs hL hP hD hS
  exact lv_icmp_le hx hb hdg ht (fun h => kt h ls H locs hL hP hD hS) (fun h => kf h ls H locs hL hP hD hS)
theorem g_icmp_eqN (O : Ok X l D z cc own Ts nL R ini) {a b : Nat} (ha1 : a < 2147483648) (hb1 : b < 2147483648) {off : Int} {tgt : Nat} (hdg : decode cc pc = .ok (.if_icmp .eq off, 3)) (ht : (pc : Int) + off = (tgt : Int)) (kt : a = b → G X u v tgt L st ws) (kf : a ≠ b → G X u v (pc + 3) L st ws) : G X u v pc L (.int (nI b) :: .int (nI a) :: st) ws := g_icmp_eq O hdg ht (fun h => kt ((nI_eq ha1 hb1).mp h)) (fun h => kf (fun h2 => h ((nI_eq ha1 hb1).mpr h2)))
theorem g_icmp_neN (O : Ok X l D z cc own Ts nL R ini) {a b : Nat} (ha1 : a < 2147483648) (hb1 : b < 2147483648) {off : Int} {tgt : Nat} (hdg : decode cc pc = .ok (.if_icmp .ne off, 3)) (ht : (pc : Int) + off = (tgt : Int)) (kt : a ≠ b → G X u v tgt L st ws) (kf : a = b → G X u v (pc + 3) L st ws) : G X u v pc L (.int (nI b) :: .int (nI a) :: st) ws := g_icmp_ne O hdg ht (fun h => kt (fun h2 => h ((nI_eq ha1 hb1).mpr h2))) (fun h => kf ((nI_eq ha1 hb1).mp h))
theorem g_icmp_ltN (O : Ok X l D z cc own Ts nL R ini) {a b : Nat} (ha1 : a < 2147483648) (hb1 : b < 2147483648) {off : Int} {tgt : Nat} (hdg : decode cc pc = .ok (.if_icmp .lt off, 3)) (ht : (pc : Int) + off = (tgt : Int)) (kt : a < b → G X u v tgt L st ws) (kf : b ≤ a → G X u v (pc + 3) L st ws) : G X u v pc L (.int (nI b) :: .int (nI a) :: st) ws := g_icmp_lt O hdg ht (fun h => kt ((nI_ltI ha1 hb1).mp h)) (fun h => kf (Nat.le_of_not_lt (fun h2 => h ((nI_ltI ha1 hb1).mpr h2))))
theorem g_icmp_geN (O : Ok X l D z cc own Ts nL R ini) {a b : Nat} (ha1 : a < 2147483648) (hb1 : b < 2147483648) {off : Int} {tgt : Nat} (hdg : decode cc pc = .ok (.if_icmp .ge off, 3)) (ht : (pc : Int) + off = (tgt : Int)) (kt : b ≤ a → G X u v tgt L st ws) (kf : a < b → G X u v (pc + 3) L st ws) : G X u v pc L (.int (nI b) :: .int (nI a) :: st) ws := g_icmp_ge O hdg ht (fun h => kt ((nI_leI hb1 ha1).mp h)) (fun h => kf (Nat.lt_of_not_le (fun h2 => h ((nI_leI hb1 ha1).mpr h2))))
theorem g_icmp_gtN (O : Ok X l D z cc own Ts nL R ini) {a b : Nat} (ha1 : a < 2147483648) (hb1 : b < 2147483648) {off : Int} {tgt : Nat} (hdg : decode cc pc = .ok (.if_icmp .gt off, 3)) (ht : (pc : Int) + off = (tgt : Int)) (kt : b < a → G X u v tgt L st ws) (kf : a ≤ b → G X u v (pc + 3) L st ws) : G X u v pc L (.int (nI b) :: .int (nI a) :: st) ws := g_icmp_gt O hdg ht (fun h => kt ((nI_ltI hb1 ha1).mp h)) (fun h => kf (Nat.le_of_not_lt (fun h2 => h ((nI_ltI hb1 ha1).mpr h2))))
theorem g_icmp_leN (O : Ok X l D z cc own Ts nL R ini) {a b : Nat} (ha1 : a < 2147483648) (hb1 : b < 2147483648) {off : Int} {tgt : Nat} (hdg : decode cc pc = .ok (.if_icmp .le off, 3)) (ht : (pc : Int) + off = (tgt : Int)) (kt : a ≤ b → G X u v tgt L st ws) (kf : b < a → G X u v (pc + 3) L st ws) : G X u v pc L (.int (nI b) :: .int (nI a) :: st) ws := g_icmp_le O hdg ht (fun h => kt ((nI_leI ha1 hb1).mp h)) (fun h => kf (Nat.lt_of_not_le (fun h2 => h ((nI_leI ha1 hb1).mpr h2))))
theorem g_if_eq (O : Ok X l D z cc own Ts nL R ini) {x : Int32} {off : Int} {tgt : Nat} (hdg : decode cc pc = .ok (.ifCond .eq off, 3)) (ht : (pc : Int) + off = (tgt : Int)) (kt : x = 0 → G X u v tgt L st ws) (kf : ¬ x = 0 → G X u v (pc + 3) L st ws) : G X u v pc L (.int x :: st) ws := by
  obtain ⟨p, l', e, R', s, m, args, below, meth, c, Q, nL', D', z', A⟩ := X
  obtain ⟨hx, hb, hml, hown, hts, hE, hA, hZ, hlk, rfl, rfl, rfl, rfl, rfl, hin⟩ := O
  intro ls H locs hL hP hD hS
  exact lv_if_eq hx hb hdg ht (fun h => kt h ls H locs hL hP hD hS) (fun h => kf h ls H locs hL hP hD hS)
theorem g_if_ne (O : Ok X l D z cc own Ts nL R ini) {x : Int32} {off : Int} {tgt : Nat} (hdg : decode cc pc = .ok (.ifCond .ne off, 3)) (ht : (pc : Int) + off = (tgt : Int)) (kt : ¬ x = 0 → G X u v tgt L st ws) (kf : x = 0 → G X u v (pc + 3) L st ws) : G X u v pc L (.int x :: st) ws := by
  obtain ⟨p, l', e, R', s, m, args, below, meth, c, Q, nL', D', z', A⟩ := X
  obtain ⟨hx, hb, hml, hown, hts, hE, hA, hZ, hlk, rfl, rfl, rfl, rfl, rfl, hin⟩ := O
  intro ls H locs hL hP hD hS
  exact lv_if_ne hx hb hdg ht (fun h => kt h ls H locs hL hP hD hS) (fun h => kf h ls H locs hL hP hD hS)
theorem g_if_lt (O : Ok X l D z cc own Ts nL R ini) {x : Int32} {off : Int} {tgt : Nat} (hdg : decode cc pc = .ok (.ifCond .lt off, 3)) (ht : (pc : Int) + off = (tgt : Int)) (kt : x < 0 → G X u v tgt L st ws) (kf : ¬ x < 0 → G X u v (pc + 3) L st ws) : G X u v pc L (.int x :: st) ws := by
  obtain ⟨p, l', e, R', s, m, args, below, meth, c, Q, nL', D', z', A⟩ := X
  obtain ⟨hx, hb, hml, hown, hts, hE, hA, hZ, hlk, rfl, rfl, rfl, rfl, rfl, hin⟩ := O
  intro ls H locs hL hP hD hS
  exact lv_if_lt hx hb hdg ht (fun h => kt h ls H locs hL hP hD hS) (fun h => kf h ls H locs hL hP hD hS)
theorem g_if_ge (O : Ok X l D z cc own Ts nL R ini) {x : Int32} {off : Int} {tgt : Nat} (hdg : decode cc pc = .ok (.ifCond .ge off, 3)) (ht : (pc : Int) + off = (tgt : Int)) (kt : 0 ≤ x → G X u v tgt L st ws) (kf : ¬ 0 ≤ x → G X u v (pc + 3) L st ws) : G X u v pc L (.int x :: st) ws := by
  obtain ⟨p, l', e, R', s, m, args, below, meth, c, Q, nL', D', z', A⟩ := X
  obtain ⟨hx, hb, hml, hown, hts, hE, hA, hZ, hlk, rfl, rfl, rfl, rfl, rfl, hin⟩ := O
  intro ls H locs hL hP hD hS
  exact lv_if_ge hx hb hdg ht (fun h => kt h ls H locs hL hP hD hS) (fun h => kf h ls H locs hL hP hD hS)
theorem g_if_gt (O : Ok X l D z cc own Ts nL R ini) {x : Int32} {off : Int} {tgt : Nat} (hdg : decode cc pc = .ok (.ifCond .gt off, 3)) (ht : (pc : Int) + off = (tgt : Int)) (kt : 0 < x → G X u v tgt L st ws) (kf : ¬ 0 < x → G X u v (pc + 3) L st ws) : G X u v pc L (.int x :: st) ws := by
  obtain ⟨p, l', e, R', s, m, args, below, meth, c, Q, nL', D', z', A⟩ := X
  obtain ⟨hx, hb, hml, hown, hts, hE, hA, hZ, hlk, rfl, rfl, rfl, rfl, rfl, hin⟩ := O
  intro ls H locs hL hP hD hS
  exact lv_if_gt hx hb hdg ht (fun h => kt h ls H locs hL hP hD hS) (fun h => kf h ls H locs hL hP hD hS)
theorem g_if_le (O : Ok X l D z cc own Ts nL R ini) {x : Int32} {off : Int} {tgt : Nat} (hdg : decode cc pc = .ok (.ifCond .le off, 3)) (ht : (pc : Int) + off = (tgt : Int)) (kt : x ≤ 0 → G X u v tgt L st ws) (kf : ¬ x ≤ 0 → G X u v (pc + 3) L st ws) : G X u v pc L (.int x :: st) ws := by
  obtain ⟨p, l', e, R', s, m, args, below, meth, c, Q, nL', D', z', A⟩ := X
  obtain ⟨hx, hb, hml, hown, hts, hE, hA, hZ, hlk, rfl, rfl, rfl, rfl, rfl, hin⟩ := O
  intro ls H locs hL hP hD hS
  exact lv_if_le hx hb hdg ht (fun h => kt h ls H locs hL hP hD hS) (fun h => kf h ls H locs hL hP hD hS)
theorem nI_z {a : Nat} (h : a < 2147483648) : nI a = 0 ↔ a = 0 := by rw [← nI_0]; exact nI_eq h (by omega)
theorem nI_le0 {a : Nat} (h : a < 2147483648) : nI a ≤ 0 ↔ a = 0 := by rw [← nI_0, nI_leI h (by omega)]; omega
theorem nI_lt0 {a : Nat} (h : a < 2147483648) : 0 < nI a ↔ 0 < a := by rw [← nI_0, nI_ltI (by omega) h]
theorem g_if_eqN (O : Ok X l D z cc own Ts nL R ini) {a : Nat} (ha1 : a < 2147483648) {off : Int} {tgt : Nat} (hdg : decode cc pc = .ok (.ifCond .eq off, 3)) (ht : (pc : Int) + off = (tgt : Int)) (kt : a = 0 → G X u v tgt L st ws) (kf : 0 < a → G X u v (pc + 3) L st ws) : G X u v pc L (.int (nI a) :: st) ws := g_if_eq O hdg ht (fun h => kt ((nI_z ha1).mp h)) (fun h => kf (Nat.pos_of_ne_zero (fun h2 => h ((nI_z ha1).mpr h2))))
theorem g_if_neN (O : Ok X l D z cc own Ts nL R ini) {a : Nat} (ha1 : a < 2147483648) {off : Int} {tgt : Nat} (hdg : decode cc pc = .ok (.ifCond .ne off, 3)) (ht : (pc : Int) + off = (tgt : Int)) (kt : 0 < a → G X u v tgt L st ws) (kf : a = 0 → G X u v (pc + 3) L st ws) : G X u v pc L (.int (nI a) :: st) ws := g_if_ne O hdg ht (fun h => kt (Nat.pos_of_ne_zero (fun h2 => h ((nI_z ha1).mpr h2)))) (fun h => kf ((nI_z ha1).mp h))
theorem g_if_leN (O : Ok X l D z cc own Ts nL R ini) {a : Nat} (ha1 : a < 2147483648) {off : Int} {tgt : Nat} (hdg : decode cc pc = .ok (.ifCond .le off, 3)) (ht : (pc : Int) + off = (tgt : Int)) (kt : a = 0 → G X u v tgt L st ws) (kf : 0 < a → G X u v (pc + 3) L st ws) : G X u v pc L (.int (nI a) :: st) ws := g_if_le O hdg ht (fun h => kt ((nI_le0 ha1).mp h)) (fun h => kf (Nat.pos_of_ne_zero (fun h2 => h ((nI_le0 ha1).mpr h2))))
theorem g_if_gtN (O : Ok X l D z cc own Ts nL R ini) {a : Nat} (ha1 : a < 2147483648) {off : Int} {tgt : Nat} (hdg : decode cc pc = .ok (.ifCond .gt off, 3)) (ht : (pc : Int) + off = (tgt : Int)) (kt : 0 < a → G X u v tgt L st ws) (kf : a = 0 → G X u v (pc + 3) L st ws) : G X u v pc L (.int (nI a) :: st) ws := g_if_gt O hdg ht (fun h => kt ((nI_lt0 ha1).mp h)) (fun h => kf (Nat.eq_zero_of_not_pos (fun h2 => h ((nI_lt0 ha1).mpr h2))))
theorem g_if_geN (O : Ok X l D z cc own Ts nL R ini) {a : Nat} (ha1 : a < 2147483648) {off : Int} {tgt : Nat} (hdg : decode cc pc = .ok (.ifCond .ge off, 3)) (ht : (pc : Int) + off = (tgt : Int)) (kt : G X u v tgt L st ws) : G X u v pc L (.int (nI a) :: st) ws := g_if_ge O hdg ht (fun h => kt) (fun h => absurd (nI_pos' ha1) h)
theorem g_if_ltN (O : Ok X l D z cc own Ts nL R ini) {a : Nat} (ha1 : a < 2147483648) {off : Int} {tgt : Nat} (hdg : decode cc pc = .ok (.ifCond .lt off, 3)) (ht : (pc : Int) + off = (tgt : Int)) (kf : G X u v (pc + 3) L st ws) : G X u v pc L (.int (nI a) :: st) ws := g_if_lt O hdg ht (fun h => absurd h (nI_pos ha1)) (fun h => kf)
def bB (b : Bool) : Int32 := if b then 1 else 0
theorem bB_0 (b : Bool) : bB b = 0 ↔ b = false := by cases b <;> simp [bB]
theorem bB_1 (b : Bool) : bB b = 1 ↔ b = true := by cases b <;> simp [bB]
theorem bB_n (b : Bool) : vp_nar .boolean (bB b) = bB b := by cases b <;> decide +kernel
theorem bB_nn (b : Bool) : narrow .boolean (.int (bB b)) = .int (bB b) := by cases b <;> decide +kernel
theorem bB_fit (b : Bool) : fits .boolean (.int (bB b)) = true := by cases b <;> decide +kernel
theorem g_if_eqB (O : Ok X l D z cc own Ts nL R ini) {b : Bool} {off : Int} {tgt : Nat} (hdg : decode cc pc = .ok (.ifCond .eq off, 3)) (ht : (pc : Int) + off = (tgt : Int)) (kt : b = false → G X u v tgt L st ws) (kf : b = true → G X u v (pc + 3) L st ws) : G X u v pc L (.int (bB b) :: st) ws := g_if_eq O hdg ht (fun h => kt ((bB_0 b).mp h)) (fun h => kf (by cases b <;> simp_all [bB]))
theorem g_if_neB (O : Ok X l D z cc own Ts nL R ini) {b : Bool} {off : Int} {tgt : Nat} (hdg : decode cc pc = .ok (.ifCond .ne off, 3)) (ht : (pc : Int) + off = (tgt : Int)) (kt : b = true → G X u v tgt L st ws) (kf : b = false → G X u v (pc + 3) L st ws) : G X u v pc L (.int (bB b) :: st) ws := g_if_ne O hdg ht (fun h => kt (by cases b <;> simp_all [bB])) (fun h => kf ((bB_0 b).mp h))
theorem g_iald (O : Ok X l D z cc own Ts nL R ini) {a n : Nat} {f : Nat → Int32} {i : Int32} (q0 : Nat) (ha : ws[q0]? = some (a, .inl ((TY D)[0].1, n, .inl f))) (hi : vp_in i n) (hdg : decode cc pc = .ok (.iaload, 1)) (kk : G X u v (pc + 1) L (.int (f i.toNatClampNeg) :: st) ws) : G X u v pc L (.int i :: .ref a :: st) ws := by
  obtain ⟨p, l', e, R', s, m, args, below, meth, c, Q, nL', D', z', A⟩ := X
  obtain ⟨hx, hb, hml, hown, hts, hE, hA, hZ, hlk, rfl, rfl, rfl, rfl, rfl, hin⟩ := O
  intro ls H locs hL hP hD hS
  exact va_iald hx hb hE.1 hP q0 0 ha rfl hi hdg (kk ls H locs hL hP hD hS)
theorem g_ialdN (O : Ok X l D z cc own Ts nL R ini) {a n : Nat} {f : Nat → Int32} {i : Nat} (q0 : Nat) (ha : ws[q0]? = some (a, .inl ((TY D)[0].1, n, .inl f))) (hi : i < n) (hn : n < 2147483648) (hdg : decode cc pc = .ok (.iaload, 1)) (kk : G X u v (pc + 1) L (.int (f i) :: st) ws) : G X u v pc L (.int (nI i) :: .ref a :: st) ws := g_iald O q0 ha (vp_in_nI hi hn) hdg (by rw [nI_clamp (Nat.lt_trans hi hn)]; exact kk)
theorem g_zald (O : Ok X l D z cc own Ts nL R ini) {a n : Nat} {f : Nat → Int32} {i : Int32} (q0 : Nat) (ha : ws[q0]? = some (a, .inl ((TY D)[1].1, n, .inl f))) (hi : vp_in i n) (hdg : decode cc pc = .ok (.baload, 1)) (kk : G X u v (pc + 1) L (.int (f i.toNatClampNeg) :: st) ws) : G X u v pc L (.int i :: .ref a :: st) ws := by
  obtain ⟨p, l', e, R', s, m, args, below, meth, c, Q, nL', D', z', A⟩ := X
  obtain ⟨hx, hb, hml, hown, hts, hE, hA, hZ, hlk, rfl, rfl, rfl, rfl, rfl, hin⟩ := O
  intro ls H locs hL hP hD hS
  exact va_zald hx hb hE.1 hP q0 1 ha rfl hi hdg (kk ls H locs hL hP hD hS)
theorem g_zaldN (O : Ok X l D z cc own Ts nL R ini) {a n : Nat} {f : Nat → Int32} {i : Nat} (q0 : Nat) (ha : ws[q0]? = some (a, .inl ((TY D)[1].1, n, .inl f))) (hi : i < n) (hn : n < 2147483648) (hdg : decode cc pc = .ok (.baload, 1)) (kk : G X u v (pc + 1) L (.int (f i) :: st) ws) : G X u v pc L (.int (nI i) :: .ref a :: st) ws := g_zald O q0 ha (vp_in_nI hi hn) hdg (by rw [nI_clamp (Nat.lt_trans hi hn)]; exact kk)
theorem g_cald (O : Ok X l D z cc own Ts nL R ini) {a n : Nat} {f : Nat → Int32} {i : Int32} (q0 : Nat) (ha : ws[q0]? = some (a, .inl ((TY D)[2].1, n, .inl f))) (hi : vp_in i n) (hdg : decode cc pc = .ok (.caload, 1)) (kk : G X u v (pc + 1) L (.int (f i.toNatClampNeg) :: st) ws) : G X u v pc L (.int i :: .ref a :: st) ws := by
  obtain ⟨p, l', e, R', s, m, args, below, meth, c, Q, nL', D', z', A⟩ := X
  obtain ⟨hx, hb, hml, hown, hts, hE, hA, hZ, hlk, rfl, rfl, rfl, rfl, rfl, hin⟩ := O
  intro ls H locs hL hP hD hS
  exact va_cald hx hb hE.1 hP q0 2 ha rfl hi hdg (kk ls H locs hL hP hD hS)
theorem g_caldN (O : Ok X l D z cc own Ts nL R ini) {a n : Nat} {f : Nat → Int32} {i : Nat} (q0 : Nat) (ha : ws[q0]? = some (a, .inl ((TY D)[2].1, n, .inl f))) (hi : i < n) (hn : n < 2147483648) (hdg : decode cc pc = .ok (.caload, 1)) (kk : G X u v (pc + 1) L (.int (f i) :: st) ws) : G X u v pc L (.int (nI i) :: .ref a :: st) ws := g_cald O q0 ha (vp_in_nI hi hn) hdg (by rw [nI_clamp (Nat.lt_trans hi hn)]; exact kk)
theorem f_in {x y : Value} (h : x = y) : y = x := h.symm
theorem g_iast (O : Ok X l D z cc own Ts nL R ini) {a n : Nat} {f f' : Nat → Int32} {i x : Int32} (q0 : Nat) (ha : ws[q0]? = some (a, .inl ((TY D)[0].1, n, .inl f))) (hi : vp_in i n) (hdg : decode cc pc = .ok (.iastore, 1)) (hf : upd f i.toNatClampNeg x = f') (hw : ws.set q0 (a, .inl ((TY D)[0].1, n, .inl f')) = ws') (kk : G X u v (pc + 1) L st ws') : G X u v pc L (.int x :: .int i :: .ref a :: st) ws := by
  obtain ⟨p, l', e, R', s, m, args, below, meth, c, Q, nL', D', z', A⟩ := X
  obtain ⟨hx, hb, hml, hown, hts, hE, hA, hZ, hlk, rfl, rfl, rfl, rfl, rfl, hin⟩ := O
  intro ls H locs hL hP hD hS
  subst hw
  subst hf
  exact va_iast hx hb hE.1 hP hD hS q0 0 ha rfl hi hdg (fun H1 locs1 hP1 hD1 hS1 => kk ls H1 locs1 hL hP1 hD1 hS1)
theorem g_iastN (O : Ok X l D z cc own Ts nL R ini) {a n : Nat} {f f' : Nat → Int32} {i : Nat} {x : Int32} (q0 : Nat) (ha : ws[q0]? = some (a, .inl ((TY D)[0].1, n, .inl f))) (hi : i < n) (hn : n < 2147483648) (hdg : decode cc pc = .ok (.iastore, 1)) (hf : upd f i x = f') (hw : ws.set q0 (a, .inl ((TY D)[0].1, n, .inl f')) = ws') (kk : G X u v (pc + 1) L st ws') : G X u v pc L (.int x :: .int (nI i) :: .ref a :: st) ws := g_iast O q0 ha (vp_in_nI hi hn) hdg (by rw [nI_clamp (Nat.lt_trans hi hn)]; exact hf) hw kk
theorem g_zast (O : Ok X l D z cc own Ts nL R ini) {a n : Nat} {f f' : Nat → Int32} {i x : Int32} (q0 : Nat) (ha : ws[q0]? = some (a, .inl ((TY D)[1].1, n, .inl f))) (hi : vp_in i n) (hdg : decode cc pc = .ok (.bastore, 1)) (hf : upd f i.toNatClampNeg (vp_nar .boolean x) = f') (hw : ws.set q0 (a, .inl ((TY D)[1].1, n, .inl f')) = ws') (kk : G X u v (pc + 1) L st ws') : G X u v pc L (.int x :: .int i :: .ref a :: st) ws := by
  obtain ⟨p, l', e, R', s, m, args, below, meth, c, Q, nL', D', z', A⟩ := X
  obtain ⟨hx, hb, hml, hown, hts, hE, hA, hZ, hlk, rfl, rfl, rfl, rfl, rfl, hin⟩ := O
  intro ls H locs hL hP hD hS
  subst hw
  subst hf
  exact va_zast hx hb hE.1 hP hD hS q0 1 ha rfl hi hdg (fun H1 locs1 hP1 hD1 hS1 => kk ls H1 locs1 hL hP1 hD1 hS1)
theorem g_zastN (O : Ok X l D z cc own Ts nL R ini) {a n : Nat} {f f' : Nat → Int32} {i : Nat} {x : Int32} (q0 : Nat) (ha : ws[q0]? = some (a, .inl ((TY D)[1].1, n, .inl f))) (hi : i < n) (hn : n < 2147483648) (hdg : decode cc pc = .ok (.bastore, 1)) (hf : upd f i (vp_nar .boolean x) = f') (hw : ws.set q0 (a, .inl ((TY D)[1].1, n, .inl f')) = ws') (kk : G X u v (pc + 1) L st ws') : G X u v pc L (.int x :: .int (nI i) :: .ref a :: st) ws := g_zast O q0 ha (vp_in_nI hi hn) hdg (by rw [nI_clamp (Nat.lt_trans hi hn)]; exact hf) hw kk
theorem g_cast (O : Ok X l D z cc own Ts nL R ini) {a n : Nat} {f f' : Nat → Int32} {i x : Int32} (q0 : Nat) (ha : ws[q0]? = some (a, .inl ((TY D)[2].1, n, .inl f))) (hi : vp_in i n) (hdg : decode cc pc = .ok (.castore, 1)) (hf : upd f i.toNatClampNeg (vp_nar .char x) = f') (hw : ws.set q0 (a, .inl ((TY D)[2].1, n, .inl f')) = ws') (kk : G X u v (pc + 1) L st ws') : G X u v pc L (.int x :: .int i :: .ref a :: st) ws := by
  obtain ⟨p, l', e, R', s, m, args, below, meth, c, Q, nL', D', z', A⟩ := X
  obtain ⟨hx, hb, hml, hown, hts, hE, hA, hZ, hlk, rfl, rfl, rfl, rfl, rfl, hin⟩ := O
  intro ls H locs hL hP hD hS
  subst hw
  subst hf
  exact va_cast hx hb hE.1 hP hD hS q0 2 ha rfl hi hdg (fun H1 locs1 hP1 hD1 hS1 => kk ls H1 locs1 hL hP1 hD1 hS1)
theorem g_castN (O : Ok X l D z cc own Ts nL R ini) {a n : Nat} {f f' : Nat → Int32} {i : Nat} {x : Int32} (q0 : Nat) (ha : ws[q0]? = some (a, .inl ((TY D)[2].1, n, .inl f))) (hi : i < n) (hn : n < 2147483648) (hdg : decode cc pc = .ok (.castore, 1)) (hf : upd f i (vp_nar .char x) = f') (hw : ws.set q0 (a, .inl ((TY D)[2].1, n, .inl f')) = ws') (kk : G X u v (pc + 1) L st ws') : G X u v pc L (.int x :: .int (nI i) :: .ref a :: st) ws := g_cast O q0 ha (vp_in_nI hi hn) hdg (by rw [nI_clamp (Nat.lt_trans hi hn)]; exact hf) hw kk
theorem g_get (O : Ok X l D z cc own Ts nL R ini) {C : String} {T : u_T} {N ci index a : Nat} {fs : List Value} {w : Value} (hi : ∀ w ∈ u_ws C T N, w ∈ Ts) (q0 : Nat) (he : ws[q0]? = some (a, .inr (ci, fs))) (hc : vwCl[ci]? = some (C, T, N)) (k : Nat) (hk : k < N) (hlink : Cond.fieldLink own index (T k).1 (T k).2.1 (T k).2.2.1 ∈ Ts) (hv : fs[k]? = some w) (hdg : decode cc pc = .ok (.getfield index, 3)) (kk : G X u v (pc + 3) L (w :: st) ws) : G X u v pc L (.ref a :: st) ws := by
  obtain ⟨p, l', e, R', s, m, args, below, meth, c, Q, nL', D', z', A⟩ := X
  obtain ⟨hx, hb, hml, hown, hts, hE, hA, hZ, hlk, rfl, rfl, rfl, rfl, rfl, hin⟩ := O
  intro ls H locs hL hP hD hS
  exact va_get hx hb hts hi hown hE.1 hP q0 he hc k hk (hts _ hlink) (fun _ h => h) hv hdg (kk ls H locs hL hP hD hS)
theorem g_getN (O : Ok X l D z cc own Ts nL R ini) {C : String} {T : u_T} {N ci index a : Nat} {host : String} {fs : List Value} {w : Value} (hi : ∀ w ∈ u_ws C T N, w ∈ Ts) (q0 : Nat) (he : ws[q0]? = some (a, .inr (ci, fs))) (hc : vwCl[ci]? = some (C, T, N)) (k : Nat) (hk : k < N) (j : Nat) (hlink : NWf[j]? = some (own, index, (T k).1, (T k).2.1, (T k).2.2.1, host)) (hv : fs[k]? = some w) (hdg : decode cc pc = .ok (.getfield index, 3)) (kk : G X u v (pc + 3) L (w :: st) ws) : G X u v pc L (.ref a :: st) ws := by
  obtain ⟨p, l', e, R', s, m, args, below, meth, c, Q, nL', D', z', A⟩ := X
  obtain ⟨hx, hb, hml, hown, hts, hE, hA, hZ, hlk, rfl, rfl, rfl, rfl, rfl, hin⟩ := O
  intro ls H locs hL hP hD hS
  exact va_getN hx hb hts hi hown hE.1 hP q0 he hc k hk (va_Nw.use rfl (hE.2.1 _ (List.mem_of_getElem? hlink))) (fun _ h => h) hv hdg (kk ls H locs hL hP hD hS)
theorem g_put (O : Ok X l D z cc own Ts nL R ini) {C : String} {T : u_T} {N ci index a : Nat} {fs : List Value} {w : Value} {ty : FieldType} (hi : ∀ w ∈ u_ws C T N, w ∈ Ts) (ty0 : Nat → FieldType) (hty : ∀ k, k < N → parseFieldDescriptor (T k).2.2.1 = some (ty0 k)) (hnm : ∀ a, a < N → ∀ b, b < N → a ≠ b → (T a).2.1 ≠ (T b).2.1) (q0 : Nat) (he : ws[q0]? = some (a, .inr (ci, fs))) (hc : vwCl[ci]? = some (C, T, N)) (k : Nat) (hk : k < N) (hlink : Cond.fieldLink own index (T k).1 (T k).2.1 (T k).2.2.1 ∈ Ts) (hfin : (T k).2.2.2 = false) (hd : parseFieldDescriptor (T k).2.2.1 = some ty) (hn : narrow ty w = w) (hfit : fits ty w = true) (hl : k < fs.length) (hdg : decode cc pc = .ok (.putfield index, 3)) (hw : ws.set q0 (a, .inr (ci, fs.set k w)) = ws') (kk : G X u v (pc + 3) L st ws') : G X u v pc L (w :: .ref a :: st) ws := by
  obtain ⟨p, l', e, R', s, m, args, below, meth, c, Q, nL', D', z', A⟩ := X
  obtain ⟨hx, hb, hml, hown, hts, hE, hA, hZ, hlk, rfl, rfl, rfl, rfl, rfl, hin⟩ := O
  intro ls H locs hL hP hD hS
  subst hw
  exact va_put hx hb hts hi ty0 hty hnm hown hE.1 hP hD hS q0 he hc k hk (hts _ hlink) (fun _ h => h) hfin hd hn hfit hl hdg (fun H1 locs1 hP1 hD1 hS1 => kk ls H1 locs1 hL hP1 hD1 hS1)
theorem g_putN (O : Ok X l D z cc own Ts nL R ini) {C : String} {T : u_T} {N ci index a : Nat} {host : String} {fs : List Value} {w : Value} {ty : FieldType} (hi : ∀ w ∈ u_ws C T N, w ∈ Ts) (ty0 : Nat → FieldType) (hty : ∀ k, k < N → parseFieldDescriptor (T k).2.2.1 = some (ty0 k)) (hnm : ∀ a, a < N → ∀ b, b < N → a ≠ b → (T a).2.1 ≠ (T b).2.1) (q0 : Nat) (he : ws[q0]? = some (a, .inr (ci, fs))) (hc : vwCl[ci]? = some (C, T, N)) (k : Nat) (hk : k < N) (j : Nat) (hlink : NWf[j]? = some (own, index, (T k).1, (T k).2.1, (T k).2.2.1, host)) (hfin : (T k).2.2.2 = false) (hd : parseFieldDescriptor (T k).2.2.1 = some ty) (hn : narrow ty w = w) (hfit : fits ty w = true) (hl : k < fs.length) (hdg : decode cc pc = .ok (.putfield index, 3)) (hw : ws.set q0 (a, .inr (ci, fs.set k w)) = ws') (kk : G X u v (pc + 3) L st ws') : G X u v pc L (w :: .ref a :: st) ws := by
  obtain ⟨p, l', e, R', s, m, args, below, meth, c, Q, nL', D', z', A⟩ := X
  obtain ⟨hx, hb, hml, hown, hts, hE, hA, hZ, hlk, rfl, rfl, rfl, rfl, rfl, hin⟩ := O
  intro ls H locs hL hP hD hS
  subst hw
  exact va_putN hx hb hts hi ty0 hty hnm hown hE.1 hP hD hS q0 he hc k hk (va_Nw.use rfl (hE.2.1 _ (List.mem_of_getElem? hlink))) (fun _ h => h) hfin hd hn hfit hl hdg (fun H1 locs1 hP1 hD1 hS1 => kk ls H1 locs1 hL hP1 hD1 hS1)
theorem g_putF (O : Ok X l D z cc own Ts nL R ini) {C : String} {T : u_T} {N ci index a : Nat} {fs : List Value} {w : Value} {ty : FieldType} (hi : ∀ w ∈ u_ws C T N, w ∈ Ts) (ty0 : Nat → FieldType) (hty : ∀ k, k < N → parseFieldDescriptor (T k).2.2.1 = some (ty0 k)) (hnm : ∀ a, a < N → ∀ b, b < N → a ≠ b → (T a).2.1 ≠ (T b).2.1) (q0 : Nat) (he : ws[q0]? = some (a, .inr (ci, fs))) (hc : vwCl[ci]? = some (C, T, N)) (k : Nat) (hk : k < N) (hlink : Cond.fieldLink own index (T k).1 (T k).2.1 (T k).2.2.1 ∈ Ts) (hfin : (T k).2.2.2 = true) (hdecl : (T k).1 = own) (hini : ini = true) (hd : parseFieldDescriptor (T k).2.2.1 = some ty) (hn : narrow ty w = w) (hfit : fits ty w = true) (hl : k < fs.length) (hdg : decode cc pc = .ok (.putfield index, 3)) (hw : ws.set q0 (a, .inr (ci, fs.set k w)) = ws') (kk : G X u v (pc + 3) L st ws') : G X u v pc L (w :: .ref a :: st) ws := by
  obtain ⟨p, l', e, R', s, m, args, below, meth, c, Q, nL', D', z', A⟩ := X
  obtain ⟨hx, hb, hml, hown, hts, hE, hA, hZ, hlk, rfl, rfl, rfl, rfl, rfl, hin⟩ := O
  intro ls H locs hL hP hD hS
  subst hw
  exact va_putF hx hb hts hi ty0 hty hnm hown hE.1 hP hD hS q0 he hc k hk (hts _ hlink) (fun _ h => h) hfin (hin hini) hdecl hd hn hfit hl hdg (fun H1 locs1 hP1 hD1 hS1 => kk ls H1 locs1 hL hP1 hD1 hS1)
theorem g_new (O : Ok X l D z cc own Ts nL R ini) {C : String} {T : u_T} {N ci index : Nat} {fs : List Value} (hi : ∀ w ∈ u_ws C T N, w ∈ Ts) (ty : Nat → FieldType) (hty : ∀ k, k < N → parseFieldDescriptor (T k).2.2.1 = some (ty k)) (hcl : Cond.classLink own index C ∈ Ts) (hinst : Cond.instantiable C N ∈ Ts) (hini : Cond.initialized C ∈ Ts) (hc : vwCl[ci]? = some (C, T, N)) (hfs : ∀ j, j < N → defaultValue (ty j) = vp_V fs j) (hcells : u + 1 ≤ R.cells) (hslots : v + N ≤ R.slots) (hdg : decode cc pc = .ok (.new index, 3)) (kk : ∀ q : Nat, G X (u + 1) (v + N) (pc + 3) L (.ref q :: st) (ws ++ [(q, .inr (ci, fs))])) : G X u v pc L st ws := by
  obtain ⟨p, l', e, R', s, m, args, below, meth, c, Q, nL', D', z', A⟩ := X
  obtain ⟨hx, hb, hml, hown, hts, hE, hA, hZ, hlk, rfl, rfl, rfl, rfl, rfl, hin⟩ := O
  intro ls H locs hL hP hD hS
  exact va_new hx hb hts hi ty hty hown (hts _ hcl) (hts _ hinst) (hts _ hini) hE.1 hP hD hS hA hc hfs hcells hslots hdg (fun q H1 hP1 hD1 hS1 => kk q ls H1 locs hL hP1 hD1 hS1)
theorem TY_one {D : va_G} {s : State} {cA : ClassId} {ty : FieldType} {k : Nat} {c : ClassId} (hK : va_K D vwCl (TY D ++ [(cA, ty)]) s) (hk : (TY D)[k]? = some (c, ty)) (hp : ∀ C, ty ≠ .object C) : cA = c := by
  have h1 := (hK.2 4 (cA, ty) rfl).2
  have h2 := (hK.2 k (c, ty) (by rw [List.getElem?_append_left (List.getElem?_eq_some_iff.mp hk).1]; exact hk)).2
  cases ty with
  | object C => exact absurd rfl (hp C)
  | _ => exact Option.some.inj (h1.symm.trans h2)
theorem g_newI (O : Ok X l D z cc own Ts nL R ini) {n : Int32} {N : Nat} (harr : Cond.arrayClass .int ∈ Ts) (hn : ¬ n < 0) (hN : n.toNatClampNeg = N) (hbytes : N * componentBytes .int ≤ 536870912) (hcells : u + 1 ≤ R.cells) (hslots : v + N ≤ R.slots) (hdg : decode cc pc = .ok (.newarray .int, 2)) (kk : ∀ q : Nat, G X (u + 1) (v + N) (pc + 2) L (.ref q :: st) (ws ++ [(q, .inl ((TY D)[0].1, N, .inl (fun _ => 0)))])) : G X u v pc L (.int n :: st) ws := by
  obtain ⟨p, l', e, R', s, m, args, below, meth, c, Q, nL', D', z', A⟩ := X
  obtain ⟨hx, hb, hml, hown, hts, hE, hA, hZ, hlk, rfl, rfl, rfl, rfl, rfl, hin⟩ := O
  intro ls H locs hL hP hD hS
  refine va_newa (atype := .int) (ty := .int) (a0 := (N, .inl (fun _ => 0))) hx hb (hts _ harr) rfl hE.1 hP hD hS hA (fun cA => rfl) hn hN hbytes hcells hslots hdg (fun q cA H1 hK1 hP1 hD1 hS1 => ?_)
  have hc := TY_one (k := 0) hK1 rfl (fun C h => by cases h)
  subst hc
  exact kk q ls H1 locs hL hP1 hD1 hS1
theorem g_newZ (O : Ok X l D z cc own Ts nL R ini) {n : Int32} {N : Nat} (harr : Cond.arrayClass .boolean ∈ Ts) (hn : ¬ n < 0) (hN : n.toNatClampNeg = N) (hbytes : N * componentBytes .boolean ≤ 536870912) (hcells : u + 1 ≤ R.cells) (hslots : v + N ≤ R.slots) (hdg : decode cc pc = .ok (.newarray .boolean, 2)) (kk : ∀ q : Nat, G X (u + 1) (v + N) (pc + 2) L (.ref q :: st) (ws ++ [(q, .inl ((TY D)[1].1, N, .inl (fun _ => 0)))])) : G X u v pc L (.int n :: st) ws := by
  obtain ⟨p, l', e, R', s, m, args, below, meth, c, Q, nL', D', z', A⟩ := X
  obtain ⟨hx, hb, hml, hown, hts, hE, hA, hZ, hlk, rfl, rfl, rfl, rfl, rfl, hin⟩ := O
  intro ls H locs hL hP hD hS
  refine va_newa (atype := .boolean) (ty := .boolean) (a0 := (N, .inl (fun _ => 0))) hx hb (hts _ harr) rfl hE.1 hP hD hS hA (fun cA => rfl) hn hN hbytes hcells hslots hdg (fun q cA H1 hK1 hP1 hD1 hS1 => ?_)
  have hc := TY_one (k := 1) hK1 rfl (fun C h => by cases h)
  subst hc
  exact kk q ls H1 locs hL hP1 hD1 hS1
theorem g_newC (O : Ok X l D z cc own Ts nL R ini) {n : Int32} {N : Nat} (harr : Cond.arrayClass .char ∈ Ts) (hn : ¬ n < 0) (hN : n.toNatClampNeg = N) (hbytes : N * componentBytes .char ≤ 536870912) (hcells : u + 1 ≤ R.cells) (hslots : v + N ≤ R.slots) (hdg : decode cc pc = .ok (.newarray .char, 2)) (kk : ∀ q : Nat, G X (u + 1) (v + N) (pc + 2) L (.ref q :: st) (ws ++ [(q, .inl ((TY D)[2].1, N, .inl (fun _ => 0)))])) : G X u v pc L (.int n :: st) ws := by
  obtain ⟨p, l', e, R', s, m, args, below, meth, c, Q, nL', D', z', A⟩ := X
  obtain ⟨hx, hb, hml, hown, hts, hE, hA, hZ, hlk, rfl, rfl, rfl, rfl, rfl, hin⟩ := O
  intro ls H locs hL hP hD hS
  refine va_newa (atype := .char) (ty := .char) (a0 := (N, .inl (fun _ => 0))) hx hb (hts _ harr) rfl hE.1 hP hD hS hA (fun cA => rfl) hn hN hbytes hcells hslots hdg (fun q cA H1 hK1 hP1 hD1 hS1 => ?_)
  have hc := TY_one (k := 2) hK1 rfl (fun C h => by cases h)
  subst hc
  exact kk q ls H1 locs hL hP1 hD1 hS1
end GR
end
section
/-! the packed walk: contracts, calls, ends -/
theorem CP.blind {D : va_G} {z : Nat × Nat × Nat} {av : List Value} {win : va_W} {sz : Nat} : FrameBlind (CP D z av win sz) := by
  intro a U g mk h
  obtain ⟨h1, h2, h3, h4, h5, h6⟩ := h
  exact ⟨h1, h2, h3, h4.same rfl, h5, h6.moved (u := U) (U := U.calling g mk a) (Vm.Alike.refl U.vm)⟩
theorem fm_of {ws ws' : va_W} {is : List Nat} (hs : is.map (fun i => ws[i]?) = ws'.map some) : is.filterMap (fun i => ws[i]?) = ws' := by
  have h1 : (is.map (fun i => ws[i]?)).filterMap id = (ws'.map some).filterMap id := by rw [hs]
  rw [List.filterMap_map, List.filterMap_map] at h1
  simpa using h1
section GC
variable {X : Fx} {l : Launch} {D : va_G} {z : Nat × Nat × Nat} {cc : ByteArray} {own : String} {Ts : List Cond} {nL : Nat} {R : Room} {ini : Bool} {u v pc : Nat} {L L' : List (Nat × Value)} {st stk : List Value} {ws ws' win wr : va_W} {y : MethodName} {wsy wsy' : List Cond} {rm : Room} {b : Nat} {As : List Value} {post : Option Value → va_W → Prop} {mc ms maxL index : Nat} {bytes : ByteArray} {ret : Option FieldType}
theorem g_callV (O : Ok X l D z cc own Ts nL R ini) (hM : CM l y wsy rm D z (.ref b :: As) win post mc ms) (hG : GoodIn Ts (wsV own index y.cls y wsy)) (hw : wsy = Cond.code y bytes maxL ret :: wsy') (hrc : rm.cells = mc) (hrs : rm.slots = ms) (n : Nat) (hd : y.cls ≠ "java/lang/invoke/MethodHandle" ∧ y.cls ≠ "java/lang/invoke/VarHandle" ∧ (parseMethodDescriptor y.desc).map (fun d => d.parameters.length) = some n) (hR : rm.frames + 1 ≤ R.frames ∧ 8 + (maxL + 11) + rm.locals ≤ R.locals) (hcs : u + mc ≤ R.cells ∧ v + ms ≤ R.slots) {ci q0 : Nat} {rC : vw_C} {fs : List Value} (he : win[q0]? = some (b, .inr (ci, fs))) (hc : vwCl[ci]? = some rC) (hcr : rC.1 = y.cls)
    (isC isR : List Nat) (hC : isC.map (fun i => ws[i]?) = win.map some) (hnC : va_nd isC = true) (hRr : isR.map (fun i => ws[i]?) = wr.map some) (hnR : va_nd isR = true) (hdis : ∀ i ∈ isR, i ∉ isC) (hAs : As.length = n) (hstk : stk = As.reverse ++ .ref b :: st) (hW : (st.map fun v => v.category).sum ≤ 8) (hdg : decode cc pc = .ok (.invokevirtual index, 3))
    (kk : ∀ (r : Option Value) (w : va_W), post r w → G X (u + mc) (v + ms) (pc + 3) L (r.toList ++ st) (wr ++ w)) : G X u v pc L stk ws := by
  obtain ⟨p, l', e, R', s, m, args, below, meth, c, Q, nL', D', z', A⟩ := X
  obtain ⟨hx, hb, hml, hown, hts, hE, hA, hZ, hlk, rfl, rfl, rfl, rfl, rfl, hin⟩ := O
  intro ls H locs hL hP hD hS
  have hPc := hP.sub isC (fm_of hC)
  have hDc := hD.sub isC hnC hC
  have hFc := va_free hD hS hA isC hC
  have hZH := (hZ.kept hS.2.1).narrow hFc
  have run := va_runV (e := e) (below := below) (meth := meth) (locs := locs) (As := As) (rest := st) (C := y.cls) ⟨hx, hb, hml, hown, hts⟩ (hM H.size) (cwV n hts hG hw hrc hrs ⟨rfl, hd⟩ hR) ⟨CP.blind, hcr ▸ va_recv hE.1 hPc hc he, fun U hU hW => ⟨rfl, by rw [hU], by rw [hU]; exact hPc, EN.warm hW hE, hDc.weaken (fun _ _ _ _ => trivial), by rw [hU]; exact hZH.moved hW.alike⟩⟩ rfl hAs hL.1 hstk (lv_room hW) hdg hcs
  intro T hT XS
  obtain ⟨r, st₀, t, T', L2, h0, X', hLf, e1, e2, ⟨⟨r', w1, hoc, hpost, hP1, hD1⟩, hz, hk⟩, stp⟩ := run T hT XS
  cases hoc
  rw [h0] at hz hk
  obtain ⟨hP2, hD2⟩ := va_join hP hD isC isR hC hRr hnR hdis hk hFc hP1 hD1
  obtain ⟨t2, a1, b1⟩ := kk r w1 hpost ls t.heap (locs ++ L2) hL hP2 hD2 ⟨Nat.le_trans hS.1 hz, fun q h1 h2 => by rw [hk q (Nat.lt_of_lt_of_le h1 hS.1) (fun g => h2 (hFc q g))]; exact hS.2.1 q h1 h2, fun q hq => by
      rcases List.mem_append.mp hq with h | h
      · exact hS.2.2 q h
      · exact hFc _ (hLf q h)⟩ T' e1 X'
  exact ⟨t2, stp t2 a1, b1⟩
theorem g_callS (O : Ok X l D z cc own Ts nL R ini) (hM : CM l y wsy rm D z (As) win post mc ms) (hG : GoodIn Ts (va_wsS own index y wsy)) (hw : wsy = Cond.code y bytes maxL ret :: wsy') (hrc : rm.cells = mc) (hrs : rm.slots = ms) (n : Nat) (hd : y.cls ≠ "java/lang/invoke/MethodHandle" ∧ y.cls ≠ "java/lang/invoke/VarHandle" ∧ (parseMethodDescriptor y.desc).map (fun d => d.parameters.length) = some n) (hR : rm.frames + 1 ≤ R.frames ∧ 8 + (maxL + 11) + rm.locals ≤ R.locals) (hcs : u + mc ≤ R.cells ∧ v + ms ≤ R.slots)
    (isC isR : List Nat) (hC : isC.map (fun i => ws[i]?) = win.map some) (hnC : va_nd isC = true) (hRr : isR.map (fun i => ws[i]?) = wr.map some) (hnR : va_nd isR = true) (hdis : ∀ i ∈ isR, i ∉ isC) (hAs : As.length = n) (hstk : stk = As.reverse ++ st) (hW : (st.map fun v => v.category).sum ≤ 8) (hdg : decode cc pc = .ok (.invokestatic index, 3))
    (kk : ∀ (r : Option Value) (w : va_W), post r w → G X (u + mc) (v + ms) (pc + 3) L (r.toList ++ st) (wr ++ w)) : G X u v pc L stk ws := by
  obtain ⟨p, l', e, R', s, m, args, below, meth, c, Q, nL', D', z', A⟩ := X
  obtain ⟨hx, hb, hml, hown, hts, hE, hA, hZ, hlk, rfl, rfl, rfl, rfl, rfl, hin⟩ := O
  intro ls H locs hL hP hD hS
  have hPc := hP.sub isC (fm_of hC)
  have hDc := hD.sub isC hnC hC
  have hFc := va_free hD hS hA isC hC
  have hZH := (hZ.kept hS.2.1).narrow hFc
  have run := va_runS (e := e) (below := below) (meth := meth) (locs := locs) (As := As) (rest := st) ⟨hx, hb, hml, hown, hts⟩ (hM H.size) (va_cwS n hts hG hw hrc hrs hd hR) ⟨CP.blind, fun U hU hW => ⟨rfl, by rw [hU], by rw [hU]; exact hPc, EN.warm hW hE, hDc.weaken (fun _ _ _ _ => trivial), by rw [hU]; exact hZH.moved hW.alike⟩⟩ rfl hAs hL.1 hstk (lv_room hW) hdg hcs
  intro T hT XS
  obtain ⟨r, st₀, t, T', L2, h0, X', hLf, e1, e2, ⟨⟨r', w1, hoc, hpost, hP1, hD1⟩, hz, hk⟩, stp⟩ := run T hT XS
  cases hoc
  rw [h0] at hz hk
  obtain ⟨hP2, hD2⟩ := va_join hP hD isC isR hC hRr hnR hdis hk hFc hP1 hD1
  obtain ⟨t2, a1, b1⟩ := kk r w1 hpost ls t.heap (locs ++ L2) hL hP2 hD2 ⟨Nat.le_trans hS.1 hz, fun q h1 h2 => by rw [hk q (Nat.lt_of_lt_of_le h1 hS.1) (fun g => h2 (hFc q g))]; exact hS.2.1 q h1 h2, fun q hq => by
      rcases List.mem_append.mp hq with h | h
      · exact hS.2.2 q h
      · exact hFc _ (hLf q h)⟩ T' e1 X'
  exact ⟨t2, stp t2 a1, b1⟩
theorem g_callI (O : Ok X l D z cc own Ts nL R ini) (hM : CM l y wsy rm D z (.ref b :: As) win post mc ms) (hG : GoodIn Ts wsy) (hw : wsy = Cond.code y bytes maxL none :: wsy') (hrc : rm.cells = mc) (hrs : rm.slots = ms) (n : Nat) (hd : y.cls ≠ "java/lang/invoke/MethodHandle" ∧ y.cls ≠ "java/lang/invoke/VarHandle" ∧ (parseMethodDescriptor y.desc).map (fun d => d.parameters.length) = some n) (hR : rm.frames + 1 ≤ R.frames ∧ 8 + (maxL + 11) + rm.locals ≤ R.locals) (hcs : u + mc ≤ R.cells ∧ v + ms ≤ R.slots) (hini : Cond.initialized y.cls ∈ Ts) (hl : Cond.methodLink own index y ∈ Ts) (hi : Cond.instanceMethod y ∈ Ts) (hy1 : y.name = "<init>")
    (isC isR : List Nat) (hC : isC.map (fun i => ws[i]?) = win.map some) (hnC : va_nd isC = true) (hRr : isR.map (fun i => ws[i]?) = wr.map some) (hnR : va_nd isR = true) (hdis : ∀ i ∈ isR, i ∉ isC) (hAs : As.length = n) (hstk : stk = As.reverse ++ .ref b :: st) (hW : (st.map fun v => v.category).sum ≤ 8) (hdg : decode cc pc = .ok (.invokespecial index, 3))
    (kk : ∀ (r : Option Value) (w : va_W), post r w → G X (u + mc) (v + ms) (pc + 3) L (r.toList ++ st) (wr ++ w)) : G X u v pc L stk ws := by
  obtain ⟨p, l', e, R', s, m, args, below, meth, c, Q, nL', D', z', A⟩ := X
  obtain ⟨hx, hb, hml, hown, hts, hE, hA, hZ, hlk, rfl, rfl, rfl, rfl, rfl, hin⟩ := O
  intro ls H locs hL hP hD hS
  have hPc := hP.sub isC (fm_of hC)
  have hDc := hD.sub isC hnC hC
  have hFc := va_free hD hS hA isC hC
  have hZH := (hZ.kept hS.2.1).narrow hFc
  have run := va_runI (e := e) (below := below) (meth := meth) (locs := locs) (As := As) (rest := st) (b := b) ⟨hx, hb, hml, hown, hts⟩ (hM H.size) (cwI n hts hG hw hrc hrs (hts _ hini) (hts _ hl) (hts _ hi) hy1 hd hR) ⟨CP.blind, fun U hU hW => ⟨rfl, by rw [hU], by rw [hU]; exact hPc, EN.warm hW hE, hDc.weaken (fun _ _ _ _ => trivial), by rw [hU]; exact hZH.moved hW.alike⟩⟩ rfl hAs hL.1 hstk (lv_room hW) hdg hcs
  intro T hT XS
  obtain ⟨r, st₀, t, T', L2, h0, X', hLf, e1, e2, ⟨⟨r', w1, hoc, hpost, hP1, hD1⟩, hz, hk⟩, stp⟩ := run T hT XS
  cases hoc
  rw [h0] at hz hk
  obtain ⟨hP2, hD2⟩ := va_join hP hD isC isR hC hRr hnR hdis hk hFc hP1 hD1
  obtain ⟨t2, a1, b1⟩ := kk r w1 hpost ls t.heap (locs ++ L2) hL hP2 hD2 ⟨Nat.le_trans hS.1 hz, fun q h1 h2 => by rw [hk q (Nat.lt_of_lt_of_le h1 hS.1) (fun g => h2 (hFc q g))]; exact hS.2.1 q h1 h2, fun q hq => by
      rcases List.mem_append.mp hq with h | h
      · exact hS.2.2 q h
      · exact hFc _ (hLf q h)⟩ T' e1 X'
  exact ⟨t2, stp t2 a1, b1⟩
theorem g_callSN (O : Ok X l D z cc own Ts nL R ini) (hM : CM l y wsy rm D z (As) win post mc ms) (hG : GoodIn Ts wsy) (hw : wsy = Cond.code y bytes maxL ret :: wsy') (hrc : rm.cells = mc) (hrs : rm.slots = ms) (n : Nat) (hd : y.cls ≠ "java/lang/invoke/MethodHandle" ∧ y.cls ≠ "java/lang/invoke/VarHandle" ∧ (parseMethodDescriptor y.desc).map (fun d => d.parameters.length) = some n) (hR : rm.frames + 1 ≤ R.frames ∧ 8 + (maxL + 11) + rm.locals ≤ R.locals) (hcs : u + mc ≤ R.cells ∧ v + ms ≤ R.slots) {host : String} (hini : Cond.initialized y.cls ∈ Ts) (j : Nat) (hl : NWm[j]? = some (own, index, y, host)) (hi : Cond.static y ∈ Ts)
    (isC isR : List Nat) (hC : isC.map (fun i => ws[i]?) = win.map some) (hnC : va_nd isC = true) (hRr : isR.map (fun i => ws[i]?) = wr.map some) (hnR : va_nd isR = true) (hdis : ∀ i ∈ isR, i ∉ isC) (hAs : As.length = n) (hstk : stk = As.reverse ++ st) (hW : (st.map fun v => v.category).sum ≤ 8) (hdg : decode cc pc = .ok (.invokestatic index, 3))
    (kk : ∀ (r : Option Value) (w : va_W), post r w → G X (u + mc) (v + ms) (pc + 3) L (r.toList ++ st) (wr ++ w)) : G X u v pc L stk ws := by
  obtain ⟨p, l', e, R', s, m, args, below, meth, c, Q, nL', D', z', A⟩ := X
  obtain ⟨hx, hb, hml, hown, hts, hE, hA, hZ, hlk, rfl, rfl, rfl, rfl, rfl, hin⟩ := O
  intro ls H locs hL hP hD hS
  have hPc := hP.sub isC (fm_of hC)
  have hDc := hD.sub isC hnC hC
  have hFc := va_free hD hS hA isC hC
  have hZH := (hZ.kept hS.2.1).narrow hFc
  have run := va_runSN (e := e) (below := below) (meth := meth) (locs := locs) (As := As) (rest := st) ⟨hx, hb, hml, hown, hts⟩ (hM H.size) ⟨va_cnB n hts hG hw hrc hrs (hE.2.2 _ (List.mem_of_getElem? hl)) (hts _ hini) hd hR, hts _ hi, trivial⟩ ⟨CP.blind, fun U hU hW => ⟨rfl, by rw [hU], by rw [hU]; exact hPc, EN.warm hW hE, hDc.weaken (fun _ _ _ _ => trivial), by rw [hU]; exact hZH.moved hW.alike⟩⟩ rfl hAs hL.1 hstk (lv_room hW) hdg hcs
  intro T hT XS
  obtain ⟨r, st₀, t, T', L2, h0, X', hLf, e1, e2, ⟨⟨r', w1, hoc, hpost, hP1, hD1⟩, hz, hk⟩, stp⟩ := run T hT XS
  cases hoc
  rw [h0] at hz hk
  obtain ⟨hP2, hD2⟩ := va_join hP hD isC isR hC hRr hnR hdis hk hFc hP1 hD1
  obtain ⟨t2, a1, b1⟩ := kk r w1 hpost ls t.heap (locs ++ L2) hL hP2 hD2 ⟨Nat.le_trans hS.1 hz, fun q h1 h2 => by rw [hk q (Nat.lt_of_lt_of_le h1 hS.1) (fun g => h2 (hFc q g))]; exact hS.2.1 q h1 h2, fun q hq => by
      rcases List.mem_append.mp hq with h | h
      · exact hS.2.2 q h
      · exact hFc _ (hLf q h)⟩ T' e1 X'
  exact ⟨t2, stp t2 a1, b1⟩
theorem g_callIN (O : Ok X l D z cc own Ts nL R ini) (hM : CM l y wsy rm D z (.ref b :: As) win post mc ms) (hG : GoodIn Ts wsy) (hw : wsy = Cond.code y bytes maxL none :: wsy') (hrc : rm.cells = mc) (hrs : rm.slots = ms) (n : Nat) (hd : y.cls ≠ "java/lang/invoke/MethodHandle" ∧ y.cls ≠ "java/lang/invoke/VarHandle" ∧ (parseMethodDescriptor y.desc).map (fun d => d.parameters.length) = some n) (hR : rm.frames + 1 ≤ R.frames ∧ 8 + (maxL + 11) + rm.locals ≤ R.locals) (hcs : u + mc ≤ R.cells ∧ v + ms ≤ R.slots) {host : String} (hini : Cond.initialized y.cls ∈ Ts) (j : Nat) (hl : NWm[j]? = some (own, index, y, host)) (hi : Cond.instanceMethod y ∈ Ts) (hy1 : y.name = "<init>")
    (isC isR : List Nat) (hC : isC.map (fun i => ws[i]?) = win.map some) (hnC : va_nd isC = true) (hRr : isR.map (fun i => ws[i]?) = wr.map some) (hnR : va_nd isR = true) (hdis : ∀ i ∈ isR, i ∉ isC) (hAs : As.length = n) (hstk : stk = As.reverse ++ .ref b :: st) (hW : (st.map fun v => v.category).sum ≤ 8) (hdg : decode cc pc = .ok (.invokespecial index, 3))
    (kk : ∀ (r : Option Value) (w : va_W), post r w → G X (u + mc) (v + ms) (pc + 3) L (r.toList ++ st) (wr ++ w)) : G X u v pc L stk ws := by
  obtain ⟨p, l', e, R', s, m, args, below, meth, c, Q, nL', D', z', A⟩ := X
  obtain ⟨hx, hb, hml, hown, hts, hE, hA, hZ, hlk, rfl, rfl, rfl, rfl, rfl, hin⟩ := O
  intro ls H locs hL hP hD hS
  have hPc := hP.sub isC (fm_of hC)
  have hDc := hD.sub isC hnC hC
  have hFc := va_free hD hS hA isC hC
  have hZH := (hZ.kept hS.2.1).narrow hFc
  have run := va_runIN (e := e) (below := below) (meth := meth) (locs := locs) (As := As) (rest := st) (b := b) ⟨hx, hb, hml, hown, hts⟩ (hM H.size) ⟨va_cnB n hts hG hw hrc hrs (hE.2.2 _ (List.mem_of_getElem? hl)) (hts _ hini) hd hR, hy1, hts _ hi⟩ ⟨CP.blind, fun U hU hW => ⟨rfl, by rw [hU], by rw [hU]; exact hPc, EN.warm hW hE, hDc.weaken (fun _ _ _ _ => trivial), by rw [hU]; exact hZH.moved hW.alike⟩⟩ rfl hAs hL.1 hstk (lv_room hW) hdg hcs
  intro T hT XS
  obtain ⟨r, st₀, t, T', L2, h0, X', hLf, e1, e2, ⟨⟨r', w1, hoc, hpost, hP1, hD1⟩, hz, hk⟩, stp⟩ := run T hT XS
  cases hoc
  rw [h0] at hz hk
  obtain ⟨hP2, hD2⟩ := va_join hP hD isC isR hC hRr hnR hdis hk hFc hP1 hD1
  obtain ⟨t2, a1, b1⟩ := kk r w1 hpost ls t.heap (locs ++ L2) hL hP2 hD2 ⟨Nat.le_trans hS.1 hz, fun q h1 h2 => by rw [hk q (Nat.lt_of_lt_of_le h1 hS.1) (fun g => h2 (hFc q g))]; exact hS.2.1 q h1 h2, fun q hq => by
      rcases List.mem_append.mp hq with h | h
      · exact hS.2.2 q h
      · exact hFc _ (hLf q h)⟩ T' e1 X'
  exact ⟨t2, stp t2 a1, b1⟩
theorem g_objInit (O : Ok X l D z cc own Ts nL R ini) {a : Nat} (hl : Cond.methodLink own index objectInit ∈ Ts) (hi : Cond.instanceMethod objectInit ∈ Ts) (hc : Cond.code objectInit ⟨#[0xb1]⟩ 1 none ∈ Ts) (hR : 1 ≤ R.frames) (hR2 : (st.map fun v => v.category).sum + 12 ≤ R.locals) (hdg : decode cc pc = .ok (.invokespecial index, 3)) (kk : G X u v (pc + 3) L st ws) : G X u v pc L (.ref a :: st) ws := by
  obtain ⟨p, l', e, R', s, m, args, below, meth, c, Q, nL', D', z', A⟩ := X
  obtain ⟨hx, hb, hml, hown, hts, hE, hA, hZ, hlk, rfl, rfl, rfl, rfl, rfl, hin⟩ := O
  intro ls H locs hL hP hD hS
  exact W.objInit hx hb hown (hts _ hl) (hts _ hi) (hts _ hc) rfl (by rw [hml]; exact hL.1) rfl hdg hR (by show 2 * 0 + _ + 12 ≤ _; omega) (kk ls H locs hL hP hD hS)
theorem g_max (O : Ok X l D z cc own Ts nL R ini) {x0 y0 : Int32} (hl : Cond.methodLink own index Lib.Math.max.name ∈ Ts) (hs : Cond.static Lib.Math.max.name ∈ Ts) (hi : Cond.initialized "java/lang/Math" ∈ Ts) (hc : Cond.code Lib.Math.max.name Lib.Math.max.code 2 (some .int) ∈ Ts) (hR : 1 ≤ R.frames) (hR2 : (st.map fun v => v.category).sum + 13 ≤ R.locals) (hcs : u ≤ R.cells ∧ v ≤ R.slots) (hdg : decode cc pc = .ok (.invokestatic index, 3)) (kk : G X u v (pc + 3) L (.int (if x0 < y0 then y0 else x0) :: st) ws) : G X u v pc L (.int y0 :: .int x0 :: st) ws := by
  obtain ⟨p, l', e, R', s, m, args, below, meth, c, Q, nL', D', z', A⟩ := X
  obtain ⟨hx, hb, hml, hown, hts, hE, hA, hZ, hlk, rfl, rfl, rfl, rfl, rfl, hin⟩ := O
  intro ls H locs hL hP hD hS
  exact va_mmax hx hb (hml.trans hL.1.symm) hown (hts _ hl) (hts _ hs) (hts _ hi) (hts _ hc) hR hR2 hcs.1 hcs.2 hdg (kk ls H locs hL hP hD hS)
theorem g_min (O : Ok X l D z cc own Ts nL R ini) {x0 y0 : Int32} (hl : Cond.methodLink own index Lib.Math.min.name ∈ Ts) (hs : Cond.static Lib.Math.min.name ∈ Ts) (hi : Cond.initialized "java/lang/Math" ∈ Ts) (hc : Cond.code Lib.Math.min.name Lib.Math.min.code 2 (some .int) ∈ Ts) (hR : 1 ≤ R.frames) (hR2 : (st.map fun v => v.category).sum + 13 ≤ R.locals) (hcs : u ≤ R.cells ∧ v ≤ R.slots) (hdg : decode cc pc = .ok (.invokestatic index, 3)) (kk : G X u v (pc + 3) L (.int (if y0 < x0 then y0 else x0) :: st) ws) : G X u v pc L (.int y0 :: .int x0 :: st) ws := by
  obtain ⟨p, l', e, R', s, m, args, below, meth, c, Q, nL', D', z', A⟩ := X
  obtain ⟨hx, hb, hml, hown, hts, hE, hA, hZ, hlk, rfl, rfl, rfl, rfl, rfl, hin⟩ := O
  intro ls H locs hL hP hD hS
  exact va_mmin hx hb (hml.trans hL.1.symm) hown (hts _ hl) (hts _ hs) (hts _ hi) (hts _ hc) hR hR2 hcs.1 hcs.2 hdg (kk ls H locs hL hP hD hS)
theorem g_abs (O : Ok X l D z cc own Ts nL R ini) {x0 : Int32} (hl : Cond.methodLink own index Lib.Math.abs.name ∈ Ts) (hs : Cond.static Lib.Math.abs.name ∈ Ts) (hi : Cond.initialized "java/lang/Math" ∈ Ts) (hc : Cond.code Lib.Math.abs.name Lib.Math.abs.code 1 (some .int) ∈ Ts) (hR : 1 ≤ R.frames) (hR2 : (st.map fun v => v.category).sum + 13 ≤ R.locals) (hcs : u ≤ R.cells ∧ v ≤ R.slots) (hdg : decode cc pc = .ok (.invokestatic index, 3)) (kk : G X u v (pc + 3) L (.int (if 0 ≤ x0 then x0 else 0 - x0) :: st) ws) : G X u v pc L (.int x0 :: st) ws := by
  obtain ⟨p, l', e, R', s, m, args, below, meth, c, Q, nL', D', z', A⟩ := X
  obtain ⟨hx, hb, hml, hown, hts, hE, hA, hZ, hlk, rfl, rfl, rfl, rfl, rfl, hin⟩ := O
  intro ls H locs hL hP hD hS
  exact va_mabs hx hb (hml.trans hL.1.symm) hown (hts _ hl) (hts _ hs) (hts _ hi) (hts _ hc) hR hR2 hcs.1 hcs.2 hdg (kk ls H locs hL hP hD hS)
theorem g_copyI (O : Ok X l D z cc own Ts nL R ini) {a a0 n0 n1 : Nat} {f g f' : Nat → Int32} {sp dp n : Int32} (q0 q1 : Nat) (ha0 : ws[q0]? = some (a0, .inl ((TY D)[0].1, n0, .inl f))) (ha1 : ws[q1]? = some (a, .inl ((TY D)[0].1, n1, .inl g))) (hl : Cond.methodLink own index arraycopyName ∈ Ts) (hnat : Cond.native arraycopyName ∈ Ts) (hs : Cond.static arraycopyName ∈ Ts) (hi : Cond.initialized "java/lang/System" ∈ Ts)
    (h1 : ¬ sp < 0) (h2 : ¬ dp < 0) (h3 : ¬ n < 0) (h4 : sp.toNatClampNeg + n.toNatClampNeg ≤ n0) (h5 : dp.toNatClampNeg + n.toNatClampNeg ≤ n1) (hR : 1 ≤ R.frames) (hR2 : (st.map fun v => v.category).sum + (nativeFrameWords "java/lang/System" "arraycopy" 5 + 11) ≤ R.locals) (hdg : decode cc pc = .ok (.invokestatic index, 3)) (hf : va_cpy f g sp.toNatClampNeg dp.toNatClampNeg n.toNatClampNeg = f') (hw : ws.set q1 (a, .inl ((TY D)[0].1, n1, .inl f')) = ws')
    (kk : G X u v (pc + 3) L st ws') : G X u v pc L (.int n :: .int dp :: .ref a :: .int sp :: .ref a0 :: st) ws := by
  obtain ⟨p, l', e, R', s, m, args, below, meth, c, Q, nL', D', z', A⟩ := X
  obtain ⟨hx, hb, hml, hown, hts, hE, hA, hZ, hlk, rfl, rfl, rfl, rfl, rfl, hin⟩ := O
  intro ls H locs hL hP hD hS
  subst hw
  subst hf
  exact va_copyi hx hb (hml.trans hL.1.symm) hown (hts _ hl) (hts _ hnat) (hts _ hs) (hts _ hi) hE.1 hP hD hS q0 q1 0 0 ha0 ha1 rfl rfl rfl h1 h2 h3 h4 h5 (fun _ _ => rfl) hR hR2 hdg (fun H1 locs1 hP1 hD1 hS1 => kk ls H1 locs1 hL hP1 hD1 hS1)
theorem CM_int {av : List Value} {L0 : List (Nat × Value)} {Ts' : List Cond} (hy : plainName y.cls = true) (hc : y.cls = own) (hw : Ts = Cond.code y cc maxL (some .int) :: Ts') (hl0 : (lg_sl av).length ≤ maxL) (hL0 : lv_args 0 av = L0)
    (body : ∀ X : Fx, Ok X l D z cc own Ts maxL rm (y.name == "<init>") → (∀ (pc : Nat) (L : List (Nat × Value)) (x : Int32) (ws : va_W), decode cc pc = .ok (.ireturn, 1) → post (some (.int x)) ws → G X mc ms pc L [.int x] ws) → G X 0 0 0 L0 [] win) : CM l y Ts rm D z av win post mc ms := by
  intro sz
  refine Met.ofW (cc := cc) (maxL := maxL) (ret := (some .int)) hy hw ?_
  intro p e s m args below meth c s₁ B hml hv
  obtain ⟨rfl, hsz, hP, hE, hD0, hZ⟩ := hv
  have hts := atoms_spec (ws := Ts) B.pre
  have hown : s.vm.findClass own = some m.cls := hc ▸ findClass_of_methodNamed B.named
  have hlocks := B.notSynchronized
  subst hsz
  have hD := hD0.self (sz := s.heap.size)
  have hl := lv_entry av (n := maxL) hl0
  rw [lg_entry_eq]
  rw [hL0] at hl
  refine body (p, l, e, (headSpec Ts rm).room, s, m, av.toArray, below, meth, c, MQ below (CQ D win post s.heap.size) av.toArray s mc ms (va_A win s.heap.size), maxL, D, z, va_A win s.heap.size) ⟨B.exec, B.bytes, hml, hown, hts, hE, fun q h => Or.inr h, hZ, hlocks, rfl, rfl, rfl, rfl, rfl, fun h => (name_of_methodNamed B.named B.method).1.trans (by simpa using h)⟩ ?_ _ _ [] hl hP hD va_S.rf
  intro pc L x ws hdg hp ls H locs hL hP hD hS
  exact W.iret B.exec B.bytes B.returns (fun t ht hW => ⟨⟨_, ws, rfl, hp, by rw [ht]; exact hP, hD⟩, hS.F ht⟩) hS.2.2 hdg
theorem CM_bool {av : List Value} {L0 : List (Nat × Value)} {Ts' : List Cond} (hy : plainName y.cls = true) (hc : y.cls = own) (hw : Ts = Cond.code y cc maxL (some .boolean) :: Ts') (hl0 : (lg_sl av).length ≤ maxL) (hL0 : lv_args 0 av = L0)
    (body : ∀ X : Fx, Ok X l D z cc own Ts maxL rm (y.name == "<init>") → (∀ (pc : Nat) (L : List (Nat × Value)) (x : Bool) (ws : va_W), decode cc pc = .ok (.ireturn, 1) → post (some (.int (bB x))) ws → G X mc ms pc L [.int (bB x)] ws) → G X 0 0 0 L0 [] win) : CM l y Ts rm D z av win post mc ms := by
  intro sz
  refine Met.ofW (cc := cc) (maxL := maxL) (ret := (some .boolean)) hy hw ?_
  intro p e s m args below meth c s₁ B hml hv
  obtain ⟨rfl, hsz, hP, hE, hD0, hZ⟩ := hv
  have hts := atoms_spec (ws := Ts) B.pre
  have hown : s.vm.findClass own = some m.cls := hc ▸ findClass_of_methodNamed B.named
  have hlocks := B.notSynchronized
  subst hsz
  have hD := hD0.self (sz := s.heap.size)
  have hl := lv_entry av (n := maxL) hl0
  rw [lg_entry_eq]
  rw [hL0] at hl
  refine body (p, l, e, (headSpec Ts rm).room, s, m, av.toArray, below, meth, c, MQ below (CQ D win post s.heap.size) av.toArray s mc ms (va_A win s.heap.size), maxL, D, z, va_A win s.heap.size) ⟨B.exec, B.bytes, hml, hown, hts, hE, fun q h => Or.inr h, hZ, hlocks, rfl, rfl, rfl, rfl, rfl, fun h => (name_of_methodNamed B.named B.method).1.trans (by simpa using h)⟩ ?_ _ _ [] hl hP hD va_S.rf
  intro pc L x ws hdg hp ls H locs hL hP hD hS
  exact W.zret B.exec B.bytes B.returns (bB_nn x) (fun t ht hW => ⟨⟨_, ws, rfl, hp, by rw [ht]; exact hP, hD⟩, hS.F ht⟩) hS.2.2 hdg
theorem CM_void {av : List Value} {L0 : List (Nat × Value)} {Ts' : List Cond} (hy : plainName y.cls = true) (hc : y.cls = own) (hw : Ts = Cond.code y cc maxL none :: Ts') (hl0 : (lg_sl av).length ≤ maxL) (hL0 : lv_args 0 av = L0)
    (body : ∀ X : Fx, Ok X l D z cc own Ts maxL rm (y.name == "<init>") → (∀ (pc : Nat) (L : List (Nat × Value)) (ws : va_W), decode cc pc = .ok (.return_, 1) → post none ws → G X mc ms pc L [] ws) → G X 0 0 0 L0 [] win) : CM l y Ts rm D z av win post mc ms := by
  intro sz
  refine Met.ofW (cc := cc) (maxL := maxL) (ret := none) hy hw ?_
  intro p e s m args below meth c s₁ B hml hv
  obtain ⟨rfl, hsz, hP, hE, hD0, hZ⟩ := hv
  have hts := atoms_spec (ws := Ts) B.pre
  have hown : s.vm.findClass own = some m.cls := hc ▸ findClass_of_methodNamed B.named
  have hlocks := B.notSynchronized
  subst hsz
  have hD := hD0.self (sz := s.heap.size)
  have hl := lv_entry av (n := maxL) hl0
  rw [lg_entry_eq]
  rw [hL0] at hl
  refine body (p, l, e, (headSpec Ts rm).room, s, m, av.toArray, below, meth, c, MQ below (CQ D win post s.heap.size) av.toArray s mc ms (va_A win s.heap.size), maxL, D, z, va_A win s.heap.size) ⟨B.exec, B.bytes, hml, hown, hts, hE, fun q h => Or.inr h, hZ, hlocks, rfl, rfl, rfl, rfl, rfl, fun h => (name_of_methodNamed B.named B.method).1.trans (by simpa using h)⟩ ?_ _ _ [] hl hP hD va_S.rf
  intro pc L ws hdg hp ls H locs hL hP hD hS
  exact W.vret B.exec B.bytes B.returns (fun t ht hW => ⟨⟨_, ws, rfl, hp, by rw [ht]; exact hP, hD⟩, hS.F ht⟩) hS.2.2 hdg
end GC
end
section
/-! values: arrays of Nats and of truth values, changed places -/
def upf {α : Type} (f : Nat → α) (k : Nat) (x : α) : Nat → α := fun j => if j = k then x else f j
def nf (f : Nat → Nat) : Nat → Int32 := fun k => nI (f k)
def bf (f : Nat → Bool) : Nat → Int32 := fun k => bB (f k)
def ab (x : Int32) : Int32 := if 0 ≤ x then x else 0 - x
theorem upf_s {α : Type} (f : Nat → α) (k : Nat) (x : α) : upf f k x k = x := by simp [upf]
theorem upf_n {α : Type} {f : Nat → α} {k j : Nat} {x : α} (h : j ≠ k) : upf f k x j = f j := by simp [upf, h]
theorem nf_upd (f : Nat → Nat) (k x : Nat) : upd (nf f) k (nI x) = nf (upf f k x) := by
  funext j
  by_cases h : j = k <;> simp [upd, nf, upf, h]
theorem bf_upd (f : Nat → Bool) (k : Nat) (x : Bool) : upd (bf f) k (vp_nar .boolean (bB x)) = bf (upf f k x) := by
  rw [bB_n]
  funext j
  by_cases h : j = k <;> simp [upd, bf, upf, h]
theorem bf_updT (f : Nat → Bool) (k : Nat) : upd (bf f) k (vp_nar .boolean (nI 1)) = bf (upf f k true) := bf_upd f k true
theorem bf_updF (f : Nat → Bool) (k : Nat) : upd (bf f) k (vp_nar .boolean (nI 0)) = bf (upf f k false) := bf_upd f k false
theorem cpy_r {α : Type} {f g : Nat → α} {a b c : Nat} (ha : a < 2147483648) (hb : b < 2147483648) (hc : c < 2147483648) : va_cpy f g (nI a).toNatClampNeg (nI b).toNatClampNeg (nI c).toNatClampNeg = va_cpy f g a b c := by
  rw [nI_clamp ha, nI_clamp hb, nI_clamp hc]
theorem cpy_all {α : Type} {f g : Nat → α} {n j : Nat} (h : j < n) : va_cpy f g 0 0 n j = f j := by
  rw [pk_cpy_in (Nat.zero_le _) (by omega)]; simp
theorem nf_cpy {f g : Nat → Nat} {a b c : Nat} (ha : a < 2147483648) (hb : b < 2147483648) (hc : c < 2147483648) : va_cpy (nf f) (nf g) (nI a).toNatClampNeg (nI b).toNatClampNeg (nI c).toNatClampNeg = nf (va_cpy f g a b c) := by
  rw [cpy_r ha hb hc]
  funext j
  by_cases h : b ≤ j ∧ j < b + c
  · rw [pk_cpy_in h.1 h.2]
    simp only [nf]
    rw [pk_cpy_in h.1 h.2]
  · have h' : j < b ∨ b + c ≤ j := by omega
    rw [pk_cpy_out h']
    simp only [nf]
    rw [pk_cpy_out h']
theorem nI_max {a b : Nat} (ha : a < 2147483648) (hb : b < 2147483648) : (if nI a < nI b then nI b else nI a) = nI (max a b) := by
  by_cases h : a < b
  · rw [if_pos ((nI_ltI ha hb).mpr h), Nat.max_eq_right (Nat.le_of_lt h)]
  · rw [if_neg (fun h2 => h ((nI_ltI ha hb).mp h2)), Nat.max_eq_left (by omega)]
theorem nI_min {a b : Nat} (ha : a < 2147483648) (hb : b < 2147483648) : (if nI b < nI a then nI b else nI a) = nI (min a b) := by
  by_cases h : b < a
  · rw [if_pos ((nI_ltI hb ha).mpr h), Nat.min_eq_right (Nat.le_of_lt h)]
  · rw [if_neg (fun h2 => h ((nI_ltI hb ha).mp h2)), Nat.min_eq_left (by omega)]
theorem nI_dec {a : Nat} (h : 1 ≤ a) : nI a + Int32.ofInt (-1) = nI (a - 1) := by
  obtain ⟨b, rfl⟩ : ∃ b, a = b + 1 := ⟨a - 1, by omega⟩
  exact pk_m1 b
/-- an Int32 is negative, or too great, or a Nat below n -/
theorem ix_c (x : Int32) {n : Nat} (hn : n < 2147483648) : (x < 0 ∨ nI n ≤ x) ∨ ∃ j : Nat, j < n ∧ x = nI j := by
  rcases pk_ix x hn with h | h | h
  · exact Or.inl (Or.inl h)
  · exact Or.inl (Or.inr h)
  · exact Or.inr h
end
section
/-! the packed walk: statics, arrays of references -/
section GM
variable {X : Fx} {l : Launch} {D : va_G} {z : Nat × Nat × Nat} {cc : ByteArray} {own : String} {Ts : List Cond} {nL : Nat} {R : Room} {ini : Bool} {u v pc : Nat} {L L' : List (Nat × Value)} {st : List Value} {ws ws' : va_W} {index : Nat}
theorem g_getsF (O : Ok X l D z cc own Ts nL R ini) {host : String} (j : Nat) (hlink : NWf[j]? = some (own, index, RX8, "FIRST_SETTING", "[I", host)) (hdg : decode cc pc = .ok (.getstatic index, 3)) (kk : G X u v (pc + 3) L (.ref z.1 :: st) ws) : G X u v pc L st ws := by
  obtain ⟨p, l', e, R', s, m, args, below, meth, c, Q, nL', D', z', A⟩ := X
  obtain ⟨hx, hb, hml, hown, hts, hE, hA, hZ, hlk, rfl, rfl, rfl, rfl, rfl, hin⟩ := O
  intro ls H locs hL hP hD hS
  exact va_getsN hx hb hZ.1.1 hS hown (va_Nw.use rfl (hE.2.1 _ (List.mem_of_getElem? hlink))) (fun _ h => h) hdg (kk ls H locs hL hP hD hS)
theorem g_getsL (O : Ok X l D z cc own Ts nL R ini) (hlink : Cond.fieldLink own index RX8 "LEAST_SETTING" "[I" ∈ Ts) (hdg : decode cc pc = .ok (.getstatic index, 3)) (kk : G X u v (pc + 3) L (.ref z.2.1 :: st) ws) : G X u v pc L st ws := by
  obtain ⟨p, l', e, R', s, m, args, below, meth, c, Q, nL', D', z', A⟩ := X
  obtain ⟨hx, hb, hml, hown, hts, hE, hA, hZ, hlk, rfl, rfl, rfl, rfl, rfl, hin⟩ := O
  intro ls H locs hL hP hD hS
  exact va_gets hx hb hZ.2.1.1 hS hown (hts _ hlink) (fun _ h => h) hdg (kk ls H locs hL hP hD hS)
theorem g_getsM (O : Ok X l D z cc own Ts nL R ini) (hlink : Cond.fieldLink own index RX8 "MOST_SETTING" "[I" ∈ Ts) (hdg : decode cc pc = .ok (.getstatic index, 3)) (kk : G X u v (pc + 3) L (.ref z.2.2 :: st) ws) : G X u v pc L st ws := by
  obtain ⟨p, l', e, R', s, m, args, below, meth, c, Q, nL', D', z', A⟩ := X
  obtain ⟨hx, hb, hml, hown, hts, hE, hA, hZ, hlk, rfl, rfl, rfl, rfl, rfl, hin⟩ := O
  intro ls H locs hL hP hD hS
  exact va_gets hx hb hZ.2.2.1 hS hown (hts _ hlink) (fun _ h => h) hdg (kk ls H locs hL hP hD hS)
theorem g_saldL (O : Ok X l D z cc own Ts nL R ini) {i : Nat} (hi : i < 4) (hdg : decode cc pc = .ok (.iaload, 1)) (kk : G X u v (pc + 1) L (.int (zL i) :: st) ws) : G X u v pc L (.int (nI i) :: .ref z.2.1 :: st) ws := by
  obtain ⟨p, l', e, R', s, m, args, below, meth, c, Q, nL', D', z', A⟩ := X
  obtain ⟨hx, hb, hml, hown, hts, hE, hA, hZ, hlk, rfl, rfl, rfl, rfl, rfl, hin⟩ := O
  intro ls H locs hL hP hD hS
  exact va_ti hx hb hZ.2.1.2 hS (vp_in_nI hi (by omega)) (v := .int (zL i)) (by rw [nI_clamp (by omega)]) hdg (kk ls H locs hL hP hD hS)
theorem g_saldM (O : Ok X l D z cc own Ts nL R ini) {i : Nat} (hi : i < 4) (hdg : decode cc pc = .ok (.iaload, 1)) (kk : G X u v (pc + 1) L (.int (zM i) :: st) ws) : G X u v pc L (.int (nI i) :: .ref z.2.2 :: st) ws := by
  obtain ⟨p, l', e, R', s, m, args, below, meth, c, Q, nL', D', z', A⟩ := X
  obtain ⟨hx, hb, hml, hown, hts, hE, hA, hZ, hlk, rfl, rfl, rfl, rfl, rfl, hin⟩ := O
  intro ls H locs hL hP hD hS
  exact va_ti hx hb hZ.2.2.2 hS (vp_in_nI hi (by omega)) (v := .int (zM i)) (by rw [nI_clamp (by omega)]) hdg (kk ls H locs hL hP hD hS)
theorem g_ifnull (O : Ok X l D z cc own Ts nL R ini) {x : Nat} {off : Int} (hdg : decode cc pc = .ok (.ifnull off, 3)) (kk : G X u v (pc + 3) L st ws) : G X u v pc L (.ref x :: st) ws := by
  obtain ⟨p, l', e, R', s, m, args, below, meth, c, Q, nL', D', z', A⟩ := X
  obtain ⟨hx, hb, hml, hown, hts, hE, hA, hZ, hlk, rfl, rfl, rfl, rfl, rfl, hin⟩ := O
  intro ls H locs hL hP hD hS
  exact lv_ifnull hx hb hdg (kk ls H locs hL hP hD hS)
theorem g_aald (O : Ok X l D z cc own Ts nL R ini) {a n i : Nat} {f : Nat → Option Nat} (q0 : Nat) (ha : ws[q0]? = some (a, .inl ((TY D)[3].1, n, .inr (.inr (.inr (.inr f)))))) (hi : i < n) (hn : n < 2147483648) (hdg : decode cc pc = .ok (.aaload, 1)) (kk : G X u v (pc + 1) L (va_rf (f i) :: st) ws) : G X u v pc L (.int (nI i) :: .ref a :: st) ws := by
  obtain ⟨p, l', e, R', s, m, args, below, meth, c, Q, nL', D', z', A⟩ := X
  obtain ⟨hx, hb, hml, hown, hts, hE, hA, hZ, hlk, rfl, rfl, rfl, rfl, rfl, hin⟩ := O
  intro ls H locs hL hP hD hS
  exact va_aldq (C := RX5) hx hb hE.1 hP q0 3 ha rfl (vp_in_nI hi hn) hdg (by rw [nI_clamp (Nat.lt_trans hi hn)]; exact kk ls H locs hL hP hD hS)
theorem g_aast (O : Ok X l D z cc own Ts nL R ini) {a n i b : Nat} {vs : List Value} {f f' : Nat → Option Nat} (q0 qk : Nat) (ha : ws[q0]? = some (a, .inl ((TY D)[3].1, n, .inr (.inr (.inr (.inr f)))))) (hv : ws[qk]? = some (b, .inr (5, vs))) (hi : i < n) (hn : n < 2147483648) (hdg : decode cc pc = .ok (.aastore, 1)) (hf : va_up f i (some b) = f') (hw : ws.set q0 (a, .inl ((TY D)[3].1, n, .inr (.inr (.inr (.inr f'))))) = ws') (kk : G X u v (pc + 1) L st ws') : G X u v pc L (.ref b :: .int (nI i) :: .ref a :: st) ws := by
  obtain ⟨p, l', e, R', s, m, args, below, meth, c, Q, nL', D', z', A⟩ := X
  obtain ⟨hx, hb, hml, hown, hts, hE, hA, hZ, hlk, rfl, rfl, rfl, rfl, rfl, hin⟩ := O
  intro ls H locs hL hP hD hS
  subst hw
  subst hf
  refine va_astq (r := (RX5, TX5, 12)) hx hb hE.1 hP hD hS q0 3 qk 5 ha rfl hv rfl (vp_in_nI hi hn) hdg ?_
  rw [nI_clamp (Nat.lt_trans hi hn)]
  exact fun H1 locs1 hP1 hD1 hS1 => kk ls H1 locs1 hL hP1 hD1 hS1
theorem TY_obj {D : va_G} {s : State} {cA : ClassId} (hK : va_K D vwCl (TY D ++ [(cA, .object RX5)]) s) : cA = (TY D)[3].1 := by
  obtain ⟨_, _, -, -, -, h1⟩ := (hK.2 4 (cA, .object RX5) rfl).2
  obtain ⟨_, _, -, -, -, h2⟩ := (hK.2 3 ((TY D)[3].1, .object RX5) rfl).2
  exact Option.some.inj (h1.symm.trans h2)
theorem g_anew (O : Ok X l D z cc own Ts nL R ini) {n : Int32} {N : Nat} (hcl : Cond.classLink own index RX5 ∈ Ts) (hao : Cond.arrayOver (.object RX5) ∈ Ts) (hn : ¬ n < 0) (hN : n.toNatClampNeg = N) (hbytes : N * 4 ≤ 536870912) (hcells : u + 1 ≤ R.cells) (hslots : v + N ≤ R.slots) (hdg : decode cc pc = .ok (.anewarray index, 3)) (kk : ∀ q : Nat, G X (u + 1) (v + N) (pc + 3) L (.ref q :: st) (ws ++ [(q, .inl ((TY D)[3].1, N, .inr (.inr (.inr (.inr (fun _ => none))))))])) : G X u v pc L (.int n :: st) ws := by
  obtain ⟨p, l', e, R', s, m, args, below, meth, c, Q, nL', D', z', A⟩ := X
  obtain ⟨hx, hb, hml, hown, hts, hE, hA, hZ, hlk, rfl, rfl, rfl, rfl, rfl, hin⟩ := O
  intro ls H locs hL hP hD hS
  refine va_newq hx hb hown (hts _ hcl) (va_AO.of (hts _ hao)) hE.1 hP hD hS hA hn hN hbytes hcells hslots hdg (fun q cA H1 hK1 hP1 hD1 hS1 => ?_)
  have hc := TY_obj hK1
  subst hc
  exact kk q ls H1 locs hL hP1 hD1 hS1
/-- the first settings into a row of four -/
theorem g_copyT (O : Ok X l D z cc own Ts nL R ini) {a : Nat} {g : Nat → Int32} (q1 : Nat) (ha1 : ws[q1]? = some (a, .inl ((TY D)[0].1, 4, .inl g))) (hl : Cond.methodLink own index arraycopyName ∈ Ts) (hnat : Cond.native arraycopyName ∈ Ts) (hs : Cond.static arraycopyName ∈ Ts) (hi : Cond.initialized "java/lang/System" ∈ Ts) (hR : 1 ≤ R.frames) (hR2 : (st.map fun v => v.category).sum + (nativeFrameWords "java/lang/System" "arraycopy" 5 + 11) ≤ R.locals) (hdg : decode cc pc = .ok (.invokestatic index, 3)) (hw : ws.set q1 (a, .inl ((TY D)[0].1, 4, .inl (va_cpy zF g 0 0 4))) = ws')
    (kk : G X u v (pc + 3) L st ws') : G X u v pc L (.int (nI 4) :: .int (nI 0) :: .ref a :: .int (nI 0) :: .ref z.1 :: st) ws := by
  obtain ⟨p, l', e, R', s, m, args, below, meth, c, Q, nL', D', z', A⟩ := X
  obtain ⟨hx, hb, hml, hown, hts, hE, hA, hZ, hlk, rfl, rfl, rfl, rfl, rfl, hin⟩ := O
  intro ls H locs hL hP hD hS
  subst hw
  have hn0 : (nI 0).toInt = 0 := by decide +kernel
  have hn4 : (nI 4).toInt = 4 := by decide +kernel
  have c0 : (nI 0).toNatClampNeg = 0 := by decide +kernel
  have c4 : (nI 4).toNatClampNeg = 4 := by decide +kernel
  intro T hT XS
  obtain ⟨scr, hs1, hs2, hs3, hs4, -, hs5, hs7⟩ := hZ.1.2
  have hc0 : H[z'.1]? = some scr := by rw [hS.2.1 z'.1 (Array.getElem?_eq_some_iff.mp hs1).1 hs7]; exact hs1
  have hc1 : H[a]? = some (vp_cell (TY D')[0].1 (4, .inl g)) := hP q1 _ ha1
  obtain ⟨hs6, k0, hk0, cm0, hkk0⟩ := hs2
  obtain ⟨-, k1, hk1, cm1, hkk1⟩ := (hE.1.2 0 ((TY D')[0].1, .int) rfl).1 4 (fun j => .int (g j))
  obtain ⟨vm', X', step⟩ := XS.arraycopy hx hown (hts _ hl) (hts _ hnat) (hts _ hs) (hts _ hi) (src := z'.1) (dst := a) (cs := scr) (cd := vp_cell (TY D')[0].1 (4, .inl g)) (srcPos := nI 0) (destPos := nI 0) (n := nI 4) (by rw [hT]; exact hc0) (by rw [hT]; exact hc1)
    hs6 (fun _ h => by cases h) hs3 (fun h => by cases h) hk0 hk1 hkk0 hkk1 (by simp [refKind]) (by decide +kernel) (by decide +kernel) (by decide +kernel)
    (by rw [hn0, hn4]; omega)
    (by rw [hn0, hn4]; show ¬ _ > ((arrV _ 4 (fun j => .int (g j))).slots.size : Int); rw [arrV_size]; omega)
    (fun vm₁ _ i hi => by
      have e : scr.slots.getD ((nI 0).toNatClampNeg + i) .null = .int (zF ((nI 0).toNatClampNeg + i)) := by
        rw [c4] at hi
        rw [Array.getD_eq_getD_getElem?, hs5 _ (by rw [c0]; omega)]
        rfl
      refine ⟨?_, ?_⟩
      · rw [e]; rfl
      · rw [e]; exact trivial)
    (g := F0 m pc ls (.int (nI 4) :: .int (nI 0) :: .ref a :: .int (nI 0) :: .ref z'.1 :: st)) rfl (by rw [hml]; exact hL.1) (rest := st) rfl (by rw [hb]; exact hdg) hR (by show 2 * 0 + _ + _ ≤ _; omega)
  have e1 : copied scr (vp_cell (TY D')[0].1 (4, .inl g)) (nI 0) (nI 0) (nI 4) = vp_cell (TY D')[0].1 (4, .inl (va_cpy zF g 0 0 4)) := by
    have h := va_copiedX (sp := (nI 0).toNatClampNeg) (dp := (nI 0).toNatClampNeg) (n := (nI 4).toNatClampNeg) (n1 := 4) (fun w => Value.int w) scr (TY D')[0].1 zF g hs5 (by rw [c0, c4]; omega)
    rw [c0, c4] at h
    exact h
  rw [e1] at X' step
  have hlt : a < H.size := (Array.getElem?_eq_some_iff.mp hc1).1
  generalize hcv : vp_cell (TY D')[0].1 (4, .inl (va_cpy zF g 0 0 4)) = cv at X' step
  have hheap : ((T.setVm vm').setCell a cv).heap = H.setIfInBounds a cv := by rw [← hT]; rfl
  have oq : ∀ q : Nat, q ≠ a → (H.setIfInBounds a cv)[q]? = H[q]? := fun q hq => by simp [Array.getElem?_setIfInBounds, Ne.symm hq]
  obtain ⟨t, a1, b1⟩ := kk ls _ _ hL (hP.set hD ha1 (show (H.setIfInBounds a cv)[a]? = some _ by rw [← hcv]; simp [Array.getElem?_setIfInBounds, hlt]) oq) (hD.set ha1) ⟨by simp; exact hS.1, fun q g1 g2 => by
      rw [oq q (fun e => g2 (by rw [e]; exact hD.2 q1 _ ha1))]
      exact hS.2.1 q g1 g2, fun q hq => by
      rcases List.mem_append.mp hq with h | h
      · exact hS.2.2 q h
      · obtain ⟨w, -, hw⟩ := List.mem_map.mp h
        rw [← hw]
        exact hD.2 q1 _ ha1⟩ _ hheap X'
  exact ⟨t, step t a1, b1⟩
end GM
end
section
/-! a piece of bowings: what its rows hold behind a change -/
def apf {α : Type} (f g : Nat → α) (n i : Nat) : Nat → α := fun j => if n ≤ j ∧ j < n + i then g (j - n) else f j
theorem apf_0 {α : Type} (f g : Nat → α) (n : Nat) : apf f g n 0 = f := by funext j; simp only [apf]; rw [if_neg (by omega)]
theorem apf_s {α : Type} (f g : Nat → α) (n i : Nat) : upf (apf f g n i) (n + i) (g i) = apf f g n (i + 1) := by
  funext j
  by_cases h : j = n + i
  · subst h; simp only [upf, apf]; rw [if_pos trivial, if_pos (by omega)]; congr 1; omega
  · simp only [upf, apf]; rw [if_neg h]
    by_cases h2 : n ≤ j ∧ j < n + i
    · rw [if_pos h2, if_pos (by omega)]
    · rw [if_neg h2, if_neg (by omega)]
theorem apf_at {α : Type} {f g : Nat → α} {i j : Nat} (h : j < i) : apf f g 0 i j = g j := by simp only [apf]; rw [if_pos (by omega)]; congr 1
def dff {α : Type} (f : Nat → α) (d i : Nat) : Nat → α := fun j => if j < i then f (j + d) else f j
theorem dff_0 {α : Type} (f : Nat → α) (d : Nat) : dff f d 0 = f := by funext j; simp [dff]
theorem dff_s {α : Type} (f : Nat → α) (d i : Nat) : upf (dff f d i) i (dff f d i (d + i)) = dff f d (i + 1) := by
  funext j
  by_cases h : j = i
  · subst h; simp only [upf, dff]; rw [if_pos trivial, if_neg (by omega), if_pos (by omega), Nat.add_comm]
  · simp only [upf, dff]; rw [if_neg h]
    by_cases h2 : j < i
    · rw [if_pos h2, if_pos (by omega)]
    · rw [if_neg h2, if_neg (by omega)]
def cntB (p : Nat → Bool) : Nat → Nat
  | 0 => 0
  | n + 1 => cntB p n + (if p n then 1 else 0)
theorem cntB_le (p : Nat → Bool) (n : Nat) : cntB p n ≤ n := by
  induction n with
  | zero => exact Nat.le_refl 0
  | succ n ih => simp only [cntB]; split <;> omega
theorem cntB_t {p : Nat → Bool} {n : Nat} (h : p n = true) : cntB p (n + 1) = cntB p n + 1 := by simp [cntB, h]
theorem cntB_f {p : Nat → Bool} {n : Nat} (h : p n = false) : cntB p (n + 1) = cntB p n := by simp [cntB, h]
def flt {α : Type} (f : Nat → α) (p : Nat → Bool) : Nat → (Nat → α)
  | 0 => f
  | n + 1 => if p n then upf (flt f p n) (cntB p n) (f n) else flt f p n
theorem flt_hi {α : Type} (f : Nat → α) (p : Nat → Bool) (n : Nat) : ∀ j, cntB p n ≤ j → flt f p n j = f j := by
  induction n with
  | zero => intro j _; rfl
  | succ n ih =>
    intro j h
    cases hp : p n
    · rw [cntB_f hp] at h; simp only [flt, hp]; exact ih j h
    · rw [cntB_t hp] at h; simp only [flt, hp, if_true]; rw [upf_n (by omega)]; exact ih j (by omega)
theorem flt_t {α : Type} {f : Nat → α} {p : Nat → Bool} {n : Nat} (h : p n = true) : flt f p (n + 1) = upf (flt f p n) (cntB p n) (flt f p n n) := by
  rw [flt_hi f p n n (cntB_le p n)]; simp [flt, h]
theorem flt_f {α : Type} {f : Nat → α} {p : Nat → Bool} {n : Nat} (h : p n = false) : flt f p (n + 1) = flt f p n := by simp [flt, h]
def isB (f : Nat → Nat) (x : Nat) : Nat → Bool := fun j => f j == x
def isN (f : Nat → Nat) (x : Nat) : Nat → Bool := fun j => !(f j == x)
end
section
/-! what a State holds, as one value -/
abbrev SV : Type := (Nat → Nat) × (Nat → Nat) × (Nat → Nat) × Nat × (Nat → Int32) × (Nat → Nat) × (Nat → Nat) × (Nat → Nat) × Nat × Int32 × Int32 × Int32 × Int32 × Int32 × Int32
def mkS (g cc cr : Nat → Nat) (nc : Nat) (se : Nat → Int32) (fs fa fk : Nat → Nat) (ps : Nat) (la st sw fl sk mu : Int32) : SV := (g, cc, cr, nc, se, fs, fa, fk, ps, la, st, sw, fl, sk, mu)
def sv_g (s : SV) : Nat → Nat := s.1
def sv_cc (s : SV) : Nat → Nat := s.2.1
def sv_cr (s : SV) : Nat → Nat := s.2.2.1
def sv_nc (s : SV) : Nat := s.2.2.2.1
def sv_se (s : SV) : Nat → Int32 := s.2.2.2.2.1
def sv_fs (s : SV) : Nat → Nat := s.2.2.2.2.2.1
def sv_fa (s : SV) : Nat → Nat := s.2.2.2.2.2.2.1
def sv_fk (s : SV) : Nat → Nat := s.2.2.2.2.2.2.2.1
def sv_ps (s : SV) : Nat := s.2.2.2.2.2.2.2.2.1
def sv_la (s : SV) : Int32 := s.2.2.2.2.2.2.2.2.2.1
def sv_st (s : SV) : Int32 := s.2.2.2.2.2.2.2.2.2.2.1
def sv_sw (s : SV) : Int32 := s.2.2.2.2.2.2.2.2.2.2.2.1
def sv_fl (s : SV) : Int32 := s.2.2.2.2.2.2.2.2.2.2.2.2.1
def sv_sk (s : SV) : Int32 := s.2.2.2.2.2.2.2.2.2.2.2.2.2.1
def sv_mu (s : SV) : Int32 := s.2.2.2.2.2.2.2.2.2.2.2.2.2.2
/-- a state like another one (of the rows that hold more than counts, what counts) -/
def cpS (s o : SV) : SV := mkS (va_cpy (sv_g o) (sv_g s) 0 0 144) (va_cpy (sv_cc o) (sv_cc s) 0 0 4) (va_cpy (sv_cr o) (sv_cr s) 0 0 4) (sv_nc o) (va_cpy (sv_se o) (sv_se s) 0 0 4) (apf (sv_fs s) (sv_fs o) 0 (sv_ps o)) (apf (sv_fa s) (sv_fa o) 0 (sv_ps o)) (apf (sv_fk s) (sv_fk o) 0 (sv_ps o)) (sv_ps o) (sv_la o) (sv_st o) (sv_sw o) (sv_fl o) (sv_sk o) (sv_mu o)
/-- sums and greatest numbers of Nats -/
def smN (g : Nat → Nat) : Nat → Nat
  | 0 => 0
  | n + 1 => smN g n + g n
def mxN (g : Nat → Nat) : Nat → Nat
  | 0 => 0
  | n + 1 => max (mxN g n) (g n)
theorem mxN_lt {g : Nat → Nat} {b n : Nat} (hb : 0 < b) (h : ∀ j, j < n → g j < b) : mxN g n < b := by
  induction n with
  | zero => exact hb
  | succ n ih =>
    simp only [mxN]
    have h1 := ih (fun j hj => h j (by omega))
    have h2 := h n (by omega)
    omega
/-- the same number on the first n places -/
def cvf (g : Nat → Nat) (e : Nat) : Nat → (Nat → Nat)
  | 0 => g
  | n + 1 => upf (cvf g e n) n e
theorem cvf_at (g : Nat → Nat) (e n : Nat) : ∀ j, j < n → cvf g e n j = e := by
  induction n with
  | zero => intro j h; omega
  | succ n ih =>
    intro j h
    simp only [cvf]
    by_cases hj : j = n
    · subst hj; exact upf_s _ _ _
    · rw [upf_n hj]; exact ih j (by omega)
/-- a place of a row goes, those behind it come nearer -/
def drf (f : Nat → Nat) (d : Nat) : Nat → (Nat → Nat)
  | 0 => f
  | n + 1 => upf (drf f d n) (d + n) (drf f d n (d + n + 1))
theorem drf_hi (f : Nat → Nat) (d n : Nat) : ∀ j, d + n ≤ j → drf f d n j = f j := by
  induction n with
  | zero => intro j _; rfl
  | succ n ih => intro j h; simp only [drf]; rw [upf_n (by omega)]; exact ih j (by omega)
theorem drf_lo (f : Nat → Nat) (d n : Nat) : ∀ j, j < d → drf f d n j = f j := by
  induction n with
  | zero => intro j _; rfl
  | succ n ih => intro j h; simp only [drf]; rw [upf_n (by omega)]; exact ih j (by omega)
theorem drf_at (f : Nat → Nat) (d n : Nat) : ∀ j, d ≤ j → j < d + n → drf f d n j = f (j + 1) := by
  induction n with
  | zero => intro j _ _; omega
  | succ n ih =>
    intro j h1 h2
    simp only [drf]
    by_cases hj : j = d + n
    · subst hj; rw [upf_s]; exact drf_hi f d n _ (by omega)
    · rw [upf_n hj]; exact ih j h1 (by omega)
/-- the first of the first n places with a property -/
def fdB (p : Nat → Bool) : Nat → Option Nat
  | 0 => none
  | n + 1 => match fdB p n with
    | some j => some j
    | none => if p n then some n else none
theorem fdB_none {p : Nat → Bool} {n : Nat} : fdB p n = none ↔ ∀ j, j < n → p j = false := by
  induction n with
  | zero => simp [fdB]
  | succ n ih =>
    simp only [fdB]
    cases hf : fdB p n with
    | some j => 
      simp only [reduceCtorEq, false_iff]
      intro h
      rw [ih.mpr (fun j hj => h j (by omega))] at hf
      cases hf
    | none =>
      have h0 := ih.mp hf
      cases hp : p n
      · simp only [Bool.false_eq_true, if_false, true_iff]
        intro j hj
        by_cases hjn : j = n
        · subst hjn; exact hp
        · exact h0 j (by omega)
      · simp only [if_true, reduceCtorEq, false_iff]
        intro h
        have := h n (by omega)
        rw [hp] at this; cases this
theorem fdB_some {p : Nat → Bool} {n k : Nat} : fdB p n = some k ↔ k < n ∧ p k = true ∧ ∀ j, j < k → p j = false := by
  induction n with
  | zero => simp [fdB]
  | succ n ih =>
    simp only [fdB]
    cases hf : fdB p n with
    | some j =>
      rw [hf] at ih
      simp only [Option.some.injEq] at ih ⊢
      constructor
      · intro h
        have h1 := ih.mp h
        exact ⟨by omega, h1.2⟩
      · intro h
        have h0 : fdB p n = some j := hf
        by_cases hk : k < n
        · exact ih.mpr ⟨hk, h.2⟩
        · have hkn : k = n := by omega
          have hnone : fdB p n = none := fdB_none.mpr (fun i hi => h.2.2 i (by omega))
          rw [hnone] at h0; cases h0
    | none =>
      have h0 := fdB_none.mp hf
      cases hp : p n
      · simp only [Bool.false_eq_true, if_false, reduceCtorEq, false_iff]
        intro h
        by_cases hk : k < n
        · rw [h0 k hk] at h; cases h.2.1
        · have hkn : k = n := by omega
          rw [hkn, hp] at h; cases h.2.1
      · simp only [if_true, Option.some.injEq]
        constructor
        · intro h; subst h; exact ⟨by omega, hp, h0⟩
        · intro h
          by_cases hk : k < n
          · rw [h0 k hk] at h; cases h.2.1
          · omega
/-- an answer out of a search: the place, or -1 -/
def orM (o : Option Nat) : Int32 := match o with
  | some k => nI k
  | none => -1
def rf4 (a b c d : Nat) : Nat → Option Nat := fun j => match j with
  | 0 => some a
  | 1 => some b
  | 2 => some c
  | _ => some d
end
section
theorem dX0_init_0 : decode cX0_init 0 = .ok (.aload_n 0, 1) := by decide +kernel
theorem dX0_init_1 : decode cX0_init 1 = .ok (.invokespecial 3, 3) := by decide +kernel
theorem dX0_init_4 : decode cX0_init 4 = .ok (.aload_n 0, 1) := by decide +kernel
theorem dX0_init_5 : decode cX0_init 5 = .ok (.bipush 48, 2) := by decide +kernel
theorem dX0_init_7 : decode cX0_init 7 = .ok (.newarray .int, 2) := by decide +kernel
theorem dX0_init_9 : decode cX0_init 9 = .ok (.putfield 9, 3) := by decide +kernel
theorem dX0_init_12 : decode cX0_init 12 = .ok (.aload_n 0, 1) := by decide +kernel
theorem dX0_init_13 : decode cX0_init 13 = .ok (.iconst 0, 1) := by decide +kernel
theorem dX0_init_14 : decode cX0_init 14 = .ok (.putfield 15, 3) := by decide +kernel
theorem dX0_init_17 : decode cX0_init 17 = .ok (.aload_n 0, 1) := by decide +kernel
theorem dX0_init_18 : decode cX0_init 18 = .ok (.bipush 48, 2) := by decide +kernel
theorem dX0_init_20 : decode cX0_init 20 = .ok (.newarray .boolean, 2) := by decide +kernel
theorem dX0_init_22 : decode cX0_init 22 = .ok (.putfield 19, 3) := by decide +kernel
theorem dX0_init_25 : decode cX0_init 25 = .ok (.aload_n 0, 1) := by decide +kernel
theorem dX0_init_26 : decode cX0_init 26 = .ok (.aload_n 1, 1) := by decide +kernel
theorem dX0_init_27 : decode cX0_init 27 = .ok (.putfield 23, 3) := by decide +kernel
theorem dX0_init_30 : decode cX0_init 30 = .ok (.aload_n 0, 1) := by decide +kernel
theorem dX0_init_31 : decode cX0_init 31 = .ok (.aload_n 2, 1) := by decide +kernel
theorem dX0_init_32 : decode cX0_init 32 = .ok (.putfield 27, 3) := by decide +kernel
theorem dX0_init_35 : decode cX0_init 35 = .ok (.return_, 1) := by decide +kernel
set_option maxRecDepth 20000 in
theorem ggX0_clampsAllow_X7_swingAt : GoodIn wsX0_clampsAllow wsX7_swingAt := goodIn_r _ [7, 8, 9, 10, 11, 12, 13, 14, 15, 16, 17, 18, 19, 20, 38, 39, 40, 41, 42] (by decide +kernel) (by decide +kernel)
set_option maxRecDepth 20000 in
theorem gX0_clampsAllow_X7_swingAt : GoodIn wsX0_clampsAllow (wsV RX0 42 RX7 yX7_swingAt wsX7_swingAt) := goodIn_app (goodIn_of _ (by decide +kernel)) ggX0_clampsAllow_X7_swingAt
theorem dX0_clampsAllow_0 : decode cX0_clampsAllow 0 = .ok (.iconst 0, 1) := by decide +kernel
theorem dX0_clampsAllow_1 : decode cX0_clampsAllow 1 = .ok (.istore_n 2, 1) := by decide +kernel
theorem dX0_clampsAllow_2 : decode cX0_clampsAllow 2 = .ok (.iload_n 2, 1) := by decide +kernel
theorem dX0_clampsAllow_3 : decode cX0_clampsAllow 3 = .ok (.aload_n 0, 1) := by decide +kernel
theorem dX0_clampsAllow_4 : decode cX0_clampsAllow 4 = .ok (.getfield 27, 3) := by decide +kernel
theorem dX0_clampsAllow_7 : decode cX0_clampsAllow 7 = .ok (.getfield 31, 3) := by decide +kernel
theorem dX0_clampsAllow_10 : decode cX0_clampsAllow 10 = .ok (.if_icmp .ge 51, 3) := by decide +kernel
theorem dX0_clampsAllow_13 : decode cX0_clampsAllow 13 = .ok (.aload_n 0, 1) := by decide +kernel
theorem dX0_clampsAllow_14 : decode cX0_clampsAllow 14 = .ok (.getfield 23, 3) := by decide +kernel
theorem dX0_clampsAllow_17 : decode cX0_clampsAllow 17 = .ok (.iload_n 1, 1) := by decide +kernel
theorem dX0_clampsAllow_18 : decode cX0_clampsAllow 18 = .ok (.aload_n 0, 1) := by decide +kernel
theorem dX0_clampsAllow_19 : decode cX0_clampsAllow 19 = .ok (.getfield 27, 3) := by decide +kernel
theorem dX0_clampsAllow_22 : decode cX0_clampsAllow 22 = .ok (.getfield 36, 3) := by decide +kernel
theorem dX0_clampsAllow_25 : decode cX0_clampsAllow 25 = .ok (.iload_n 2, 1) := by decide +kernel
theorem dX0_clampsAllow_26 : decode cX0_clampsAllow 26 = .ok (.iaload, 1) := by decide +kernel
theorem dX0_clampsAllow_27 : decode cX0_clampsAllow 27 = .ok (.aload_n 0, 1) := by decide +kernel
theorem dX0_clampsAllow_28 : decode cX0_clampsAllow 28 = .ok (.getfield 27, 3) := by decide +kernel
theorem dX0_clampsAllow_31 : decode cX0_clampsAllow 31 = .ok (.getfield 39, 3) := by decide +kernel
theorem dX0_clampsAllow_34 : decode cX0_clampsAllow 34 = .ok (.iload_n 2, 1) := by decide +kernel
theorem dX0_clampsAllow_35 : decode cX0_clampsAllow 35 = .ok (.iaload, 1) := by decide +kernel
theorem dX0_clampsAllow_36 : decode cX0_clampsAllow 36 = .ok (.invokevirtual 42, 3) := by decide +kernel
theorem dX0_clampsAllow_39 : decode cX0_clampsAllow 39 = .ok (.istore_n 3, 1) := by decide +kernel
theorem dX0_clampsAllow_40 : decode cX0_clampsAllow 40 = .ok (.iload_n 3, 1) := by decide +kernel
theorem dX0_clampsAllow_41 : decode cX0_clampsAllow 41 = .ok (.aload_n 0, 1) := by decide +kernel
theorem dX0_clampsAllow_42 : decode cX0_clampsAllow 42 = .ok (.getfield 27, 3) := by decide +kernel
theorem dX0_clampsAllow_45 : decode cX0_clampsAllow 45 = .ok (.getfield 48, 3) := by decide +kernel
theorem dX0_clampsAllow_48 : decode cX0_clampsAllow 48 = .ok (.iconst 0, 1) := by decide +kernel
theorem dX0_clampsAllow_49 : decode cX0_clampsAllow 49 = .ok (.iaload, 1) := by decide +kernel
theorem dX0_clampsAllow_50 : decode cX0_clampsAllow 50 = .ok (.if_icmp .le 5, 3) := by decide +kernel
theorem dX0_clampsAllow_53 : decode cX0_clampsAllow 53 = .ok (.iconst 0, 1) := by decide +kernel
theorem dX0_clampsAllow_54 : decode cX0_clampsAllow 54 = .ok (.ireturn, 1) := by decide +kernel
theorem dX0_clampsAllow_55 : decode cX0_clampsAllow 55 = .ok (.iinc 2 1, 3) := by decide +kernel
theorem dX0_clampsAllow_58 : decode cX0_clampsAllow 58 = .ok (.goto (-56), 3) := by decide +kernel
theorem dX0_clampsAllow_61 : decode cX0_clampsAllow 61 = .ok (.iconst 1, 1) := by decide +kernel
theorem dX0_clampsAllow_62 : decode cX0_clampsAllow 62 = .ok (.ireturn, 1) := by decide +kernel
set_option maxRecDepth 20000 in
theorem ggX0_bowAllows_X0_swingAtBow : GoodIn wsX0_bowAllows wsX0_swingAtBow := goodIn_r _ [6, 7, 8, 9, 10, 11, 12, 13, 14, 15, 16, 17, 18, 19, 20, 21, 22, 23, 24, 25, 26, 27, 28, 29, 30, 43, 44, 45, 46, 47] (by decide +kernel) (by decide +kernel)
set_option maxRecDepth 20000 in
theorem gX0_bowAllows_X0_swingAtBow : GoodIn wsX0_bowAllows (wsV RX0 51 RX0 yX0_swingAtBow wsX0_swingAtBow) := goodIn_app (goodIn_of _ (by decide +kernel)) ggX0_bowAllows_X0_swingAtBow
theorem dX0_bowAllows_0 : decode cX0_bowAllows 0 = .ok (.aload_n 0, 1) := by decide +kernel
theorem dX0_bowAllows_1 : decode cX0_bowAllows 1 = .ok (.iload_n 1, 1) := by decide +kernel
theorem dX0_bowAllows_2 : decode cX0_bowAllows 2 = .ok (.iload_n 2, 1) := by decide +kernel
theorem dX0_bowAllows_3 : decode cX0_bowAllows 3 = .ok (.iload_n 3, 1) := by decide +kernel
theorem dX0_bowAllows_4 : decode cX0_bowAllows 4 = .ok (.invokevirtual 51, 3) := by decide +kernel
theorem dX0_bowAllows_7 : decode cX0_bowAllows 7 = .ok (.aload_n 0, 1) := by decide +kernel
theorem dX0_bowAllows_8 : decode cX0_bowAllows 8 = .ok (.getfield 27, 3) := by decide +kernel
theorem dX0_bowAllows_11 : decode cX0_bowAllows 11 = .ok (.getfield 48, 3) := by decide +kernel
theorem dX0_bowAllows_14 : decode cX0_bowAllows 14 = .ok (.iconst 1, 1) := by decide +kernel
theorem dX0_bowAllows_15 : decode cX0_bowAllows 15 = .ok (.iaload, 1) := by decide +kernel
theorem dX0_bowAllows_16 : decode cX0_bowAllows 16 = .ok (.if_icmp .lt 7, 3) := by decide +kernel
theorem dX0_bowAllows_19 : decode cX0_bowAllows 19 = .ok (.iconst 1, 1) := by decide +kernel
theorem dX0_bowAllows_20 : decode cX0_bowAllows 20 = .ok (.goto 4, 3) := by decide +kernel
theorem dX0_bowAllows_23 : decode cX0_bowAllows 23 = .ok (.iconst 0, 1) := by decide +kernel
theorem dX0_bowAllows_24 : decode cX0_bowAllows 24 = .ok (.ireturn, 1) := by decide +kernel
set_option maxRecDepth 20000 in
theorem ggX0_swingAtBow_X7_swingAt : GoodIn wsX0_swingAtBow wsX7_swingAt := goodIn_r _ [6, 7, 8, 9, 10, 11, 12, 13, 14, 15, 16, 17, 18, 19, 25, 26, 27, 28, 29] (by decide +kernel) (by decide +kernel)
set_option maxRecDepth 20000 in
theorem gX0_swingAtBow_X7_swingAt : GoodIn wsX0_swingAtBow (wsV RX0 42 RX7 yX7_swingAt wsX7_swingAt) := goodIn_app (goodIn_of _ (by decide +kernel)) ggX0_swingAtBow_X7_swingAt
theorem dX0_swingAtBow_0 : decode cX0_swingAtBow 0 = .ok (.iload_n 2, 1) := by decide +kernel
theorem dX0_swingAtBow_1 : decode cX0_swingAtBow 1 = .ok (.tableswitch 62 0 2 #[27, 38, 50], 27) := by decide +kernel
theorem dX0_swingAtBow_28 : decode cX0_swingAtBow 28 = .ok (.aload_n 0, 1) := by decide +kernel
theorem dX0_swingAtBow_29 : decode cX0_swingAtBow 29 = .ok (.getfield 23, 3) := by decide +kernel
theorem dX0_swingAtBow_32 : decode cX0_swingAtBow 32 = .ok (.iload_n 1, 1) := by decide +kernel
theorem dX0_swingAtBow_33 : decode cX0_swingAtBow 33 = .ok (.iload_n 3, 1) := by decide +kernel
theorem dX0_swingAtBow_34 : decode cX0_swingAtBow 34 = .ok (.iconst 0, 1) := by decide +kernel
theorem dX0_swingAtBow_35 : decode cX0_swingAtBow 35 = .ok (.invokevirtual 42, 3) := by decide +kernel
theorem dX0_swingAtBow_38 : decode cX0_swingAtBow 38 = .ok (.ireturn, 1) := by decide +kernel
theorem dX0_swingAtBow_39 : decode cX0_swingAtBow 39 = .ok (.aload_n 0, 1) := by decide +kernel
theorem dX0_swingAtBow_40 : decode cX0_swingAtBow 40 = .ok (.getfield 23, 3) := by decide +kernel
theorem dX0_swingAtBow_43 : decode cX0_swingAtBow 43 = .ok (.iload_n 1, 1) := by decide +kernel
theorem dX0_swingAtBow_44 : decode cX0_swingAtBow 44 = .ok (.bipush 11, 2) := by decide +kernel
theorem dX0_swingAtBow_46 : decode cX0_swingAtBow 46 = .ok (.iload_n 3, 1) := by decide +kernel
theorem dX0_swingAtBow_47 : decode cX0_swingAtBow 47 = .ok (.invokevirtual 42, 3) := by decide +kernel
theorem dX0_swingAtBow_50 : decode cX0_swingAtBow 50 = .ok (.ireturn, 1) := by decide +kernel
theorem dX0_swingAtBow_51 : decode cX0_swingAtBow 51 = .ok (.aload_n 0, 1) := by decide +kernel
theorem dX0_swingAtBow_52 : decode cX0_swingAtBow 52 = .ok (.getfield 23, 3) := by decide +kernel
theorem dX0_swingAtBow_55 : decode cX0_swingAtBow 55 = .ok (.iload_n 1, 1) := by decide +kernel
theorem dX0_swingAtBow_56 : decode cX0_swingAtBow 56 = .ok (.iload_n 3, 1) := by decide +kernel
theorem dX0_swingAtBow_57 : decode cX0_swingAtBow 57 = .ok (.bipush 11, 2) := by decide +kernel
theorem dX0_swingAtBow_59 : decode cX0_swingAtBow 59 = .ok (.invokevirtual 42, 3) := by decide +kernel
theorem dX0_swingAtBow_62 : decode cX0_swingAtBow 62 = .ok (.ireturn, 1) := by decide +kernel
theorem dX0_swingAtBow_63 : decode cX0_swingAtBow 63 = .ok (.aload_n 0, 1) := by decide +kernel
theorem dX0_swingAtBow_64 : decode cX0_swingAtBow 64 = .ok (.getfield 23, 3) := by decide +kernel
theorem dX0_swingAtBow_67 : decode cX0_swingAtBow 67 = .ok (.iload_n 1, 1) := by decide +kernel
theorem dX0_swingAtBow_68 : decode cX0_swingAtBow 68 = .ok (.iconst 0, 1) := by decide +kernel
theorem dX0_swingAtBow_69 : decode cX0_swingAtBow 69 = .ok (.iload_n 3, 1) := by decide +kernel
theorem dX0_swingAtBow_70 : decode cX0_swingAtBow 70 = .ok (.invokevirtual 42, 3) := by decide +kernel
theorem dX0_swingAtBow_73 : decode cX0_swingAtBow 73 = .ok (.ireturn, 1) := by decide +kernel
set_option maxRecDepth 20000 in
theorem ggX0_wayFor_X0_bowAllows : GoodIn wsX0_wayFor wsX0_bowAllows := goodIn_r _ [5, 6, 7, 8, 9, 4, 10, 11, 12, 13, 14, 15, 16, 17, 18, 19, 20, 21, 22, 23, 24, 25, 26, 27, 28, 29, 34, 35, 36, 37, 38, 39, 40, 41, 42, 43, 44, 45, 46, 47, 48, 49, 50, 51, 52, 53, 54, 55] (by decide +kernel) (by decide +kernel)
set_option maxRecDepth 20000 in
theorem gX0_wayFor_X0_bowAllows : GoodIn wsX0_wayFor (wsV RX0 54 RX0 yX0_bowAllows wsX0_bowAllows) := goodIn_app (goodIn_of _ (by decide +kernel)) ggX0_wayFor_X0_bowAllows
set_option maxRecDepth 20000 in
theorem ggX0_wayFor_X0_clampsAllow : GoodIn wsX0_wayFor wsX0_clampsAllow := goodIn_r _ [33, 6, 11, 12, 13, 14, 15, 16, 17, 18, 19, 20, 21, 22, 23, 24, 25, 26, 27, 28, 29, 34, 35, 36, 37, 38, 39, 40, 41, 42, 43, 44, 45, 46, 47, 48, 49, 50, 51, 52, 53, 54, 55] (by decide +kernel) (by decide +kernel)
set_option maxRecDepth 20000 in
theorem gX0_wayFor_X0_clampsAllow : GoodIn wsX0_wayFor (wsV RX0 58 RX0 yX0_clampsAllow wsX0_clampsAllow) := goodIn_app (goodIn_of _ (by decide +kernel)) ggX0_wayFor_X0_clampsAllow
theorem dX0_wayFor_0 : decode cX0_wayFor 0 = .ok (.iconst 0, 1) := by decide +kernel
theorem dX0_wayFor_1 : decode cX0_wayFor 1 = .ok (.istore_n 3, 1) := by decide +kernel
theorem dX0_wayFor_2 : decode cX0_wayFor 2 = .ok (.iload_n 3, 1) := by decide +kernel
theorem dX0_wayFor_3 : decode cX0_wayFor 3 = .ok (.bipush 48, 2) := by decide +kernel
theorem dX0_wayFor_5 : decode cX0_wayFor 5 = .ok (.if_icmp .ge 29, 3) := by decide +kernel
theorem dX0_wayFor_8 : decode cX0_wayFor 8 = .ok (.aload_n 0, 1) := by decide +kernel
theorem dX0_wayFor_9 : decode cX0_wayFor 9 = .ok (.iload_n 3, 1) := by decide +kernel
theorem dX0_wayFor_10 : decode cX0_wayFor 10 = .ok (.iload_n 1, 1) := by decide +kernel
theorem dX0_wayFor_11 : decode cX0_wayFor 11 = .ok (.iload_n 2, 1) := by decide +kernel
theorem dX0_wayFor_12 : decode cX0_wayFor 12 = .ok (.invokevirtual 54, 3) := by decide +kernel
theorem dX0_wayFor_15 : decode cX0_wayFor 15 = .ok (.ifCond .eq 13, 3) := by decide +kernel
theorem dX0_wayFor_18 : decode cX0_wayFor 18 = .ok (.aload_n 0, 1) := by decide +kernel
theorem dX0_wayFor_19 : decode cX0_wayFor 19 = .ok (.iload_n 3, 1) := by decide +kernel
theorem dX0_wayFor_20 : decode cX0_wayFor 20 = .ok (.invokevirtual 58, 3) := by decide +kernel
theorem dX0_wayFor_23 : decode cX0_wayFor 23 = .ok (.ifCond .eq 5, 3) := by decide +kernel
theorem dX0_wayFor_26 : decode cX0_wayFor 26 = .ok (.iload_n 3, 1) := by decide +kernel
theorem dX0_wayFor_27 : decode cX0_wayFor 27 = .ok (.ireturn, 1) := by decide +kernel
theorem dX0_wayFor_28 : decode cX0_wayFor 28 = .ok (.iinc 3 1, 3) := by decide +kernel
theorem dX0_wayFor_31 : decode cX0_wayFor 31 = .ok (.goto (-29), 3) := by decide +kernel
theorem dX0_wayFor_34 : decode cX0_wayFor 34 = .ok (.iconst (-1), 1) := by decide +kernel
theorem dX0_wayFor_35 : decode cX0_wayFor 35 = .ok (.ireturn, 1) := by decide +kernel
set_option maxRecDepth 20000 in
theorem ggX0_reasonOf_X0_clampsAllow : GoodIn wsX0_reasonOf wsX0_clampsAllow := goodIn_r _ [5, 6, 7, 8, 9, 10, 11, 12, 13, 14, 15, 16, 17, 18, 19, 20, 21, 22, 23, 24, 25, 38, 39, 40, 41, 42, 43, 44, 45, 46, 47, 48, 49, 50, 51, 52, 53, 54, 55, 56, 57, 58, 59] (by decide +kernel) (by decide +kernel)
set_option maxRecDepth 20000 in
theorem gX0_reasonOf_X0_clampsAllow : GoodIn wsX0_reasonOf (wsV RX0 58 RX0 yX0_clampsAllow wsX0_clampsAllow) := goodIn_app (goodIn_of _ (by decide +kernel)) ggX0_reasonOf_X0_clampsAllow
set_option maxRecDepth 20000 in
theorem ggX0_reasonOf_X0_bowAllows : GoodIn wsX0_reasonOf wsX0_bowAllows := goodIn_r _ [29, 6, 30, 31, 32, 4, 33, 7, 8, 9, 10, 11, 12, 13, 14, 15, 16, 17, 18, 19, 20, 21, 22, 23, 24, 25, 38, 39, 40, 41, 42, 43, 44, 45, 46, 47, 48, 49, 50, 51, 52, 53, 54, 55, 56, 57, 58, 59] (by decide +kernel) (by decide +kernel)
set_option maxRecDepth 20000 in
theorem gX0_reasonOf_X0_bowAllows : GoodIn wsX0_reasonOf (wsV RX0 54 RX0 yX0_bowAllows wsX0_bowAllows) := goodIn_app (goodIn_of _ (by decide +kernel)) ggX0_reasonOf_X0_bowAllows
set_option maxRecDepth 20000 in
theorem ggX0_reasonOf_X0_wayFor : GoodIn wsX0_reasonOf wsX0_wayFor := goodIn_r _ [37, 26, 27, 28, 4, 29, 6, 30, 31, 32, 33, 7, 8, 9, 10, 11, 12, 13, 14, 15, 16, 17, 18, 19, 20, 21, 22, 23, 24, 25, 1, 2, 3, 5, 38, 39, 40, 41, 42, 43, 44, 45, 46, 47, 48, 49, 50, 51, 52, 53, 54, 55, 56, 57, 58, 59] (by decide +kernel) (by decide +kernel)
set_option maxRecDepth 20000 in
theorem gX0_reasonOf_X0_wayFor : GoodIn wsX0_reasonOf (wsV RX0 62 RX0 yX0_wayFor wsX0_wayFor) := goodIn_app (goodIn_of _ (by decide +kernel)) ggX0_reasonOf_X0_wayFor
theorem dX0_reasonOf_0 : decode cX0_reasonOf 0 = .ok (.aload_n 0, 1) := by decide +kernel
theorem dX0_reasonOf_1 : decode cX0_reasonOf 1 = .ok (.iload_n 1, 1) := by decide +kernel
theorem dX0_reasonOf_2 : decode cX0_reasonOf 2 = .ok (.invokevirtual 58, 3) := by decide +kernel
theorem dX0_reasonOf_5 : decode cX0_reasonOf 5 = .ok (.ifCond .ne 5, 3) := by decide +kernel
theorem dX0_reasonOf_8 : decode cX0_reasonOf 8 = .ok (.iconst 1, 1) := by decide +kernel
theorem dX0_reasonOf_9 : decode cX0_reasonOf 9 = .ok (.ireturn, 1) := by decide +kernel
theorem dX0_reasonOf_10 : decode cX0_reasonOf 10 = .ok (.aload_n 0, 1) := by decide +kernel
theorem dX0_reasonOf_11 : decode cX0_reasonOf 11 = .ok (.iload_n 1, 1) := by decide +kernel
theorem dX0_reasonOf_12 : decode cX0_reasonOf 12 = .ok (.iload_n 2, 1) := by decide +kernel
theorem dX0_reasonOf_13 : decode cX0_reasonOf 13 = .ok (.iload_n 3, 1) := by decide +kernel
theorem dX0_reasonOf_14 : decode cX0_reasonOf 14 = .ok (.invokevirtual 54, 3) := by decide +kernel
theorem dX0_reasonOf_17 : decode cX0_reasonOf 17 = .ok (.ifCond .ne 5, 3) := by decide +kernel
theorem dX0_reasonOf_20 : decode cX0_reasonOf 20 = .ok (.iconst 2, 1) := by decide +kernel
theorem dX0_reasonOf_21 : decode cX0_reasonOf 21 = .ok (.ireturn, 1) := by decide +kernel
theorem dX0_reasonOf_22 : decode cX0_reasonOf 22 = .ok (.aload_n 0, 1) := by decide +kernel
theorem dX0_reasonOf_23 : decode cX0_reasonOf 23 = .ok (.iload_n 2, 1) := by decide +kernel
theorem dX0_reasonOf_24 : decode cX0_reasonOf 24 = .ok (.iload_n 3, 1) := by decide +kernel
theorem dX0_reasonOf_25 : decode cX0_reasonOf 25 = .ok (.invokevirtual 62, 3) := by decide +kernel
theorem dX0_reasonOf_28 : decode cX0_reasonOf 28 = .ok (.iload_n 1, 1) := by decide +kernel
theorem dX0_reasonOf_29 : decode cX0_reasonOf 29 = .ok (.if_icmp .ne 7, 3) := by decide +kernel
theorem dX0_reasonOf_32 : decode cX0_reasonOf 32 = .ok (.iconst 0, 1) := by decide +kernel
theorem dX0_reasonOf_33 : decode cX0_reasonOf 33 = .ok (.goto 4, 3) := by decide +kernel
theorem dX0_reasonOf_36 : decode cX0_reasonOf 36 = .ok (.iconst 3, 1) := by decide +kernel
theorem dX0_reasonOf_37 : decode cX0_reasonOf 37 = .ok (.ireturn, 1) := by decide +kernel
set_option maxRecDepth 20000 in
theorem ggX0_findPossible_X0_clampsAllow : GoodIn wsX0_findPossible wsX0_clampsAllow := goodIn_r _ [8, 9, 10, 11, 12, 13, 14, 15, 16, 17, 18, 19, 20, 21, 22, 23, 24, 25, 26, 27, 28, 41, 42, 43, 44, 45, 46, 47, 48, 49, 50, 51, 52, 53, 54, 55, 56, 57, 58, 59, 60, 61, 62] (by decide +kernel) (by decide +kernel)
set_option maxRecDepth 20000 in
theorem gX0_findPossible_X0_clampsAllow : GoodIn wsX0_findPossible (wsV RX0 58 RX0 yX0_clampsAllow wsX0_clampsAllow) := goodIn_app (goodIn_of _ (by decide +kernel)) ggX0_findPossible_X0_clampsAllow
set_option maxRecDepth 20000 in
theorem ggX0_findPossible_X0_takesBow : GoodIn wsX0_findPossible wsX0_takesBow := goodIn_r _ [32, 1, 33, 34, 35, 7, 36, 9, 37, 38, 39, 40, 10, 11, 12, 13, 14, 15, 16, 17, 18, 19, 20, 21, 22, 23, 24, 25, 26, 27, 28, 41, 42, 43, 44, 45, 46, 47, 48, 49, 50, 51, 52, 53, 54, 55, 56, 57, 58, 59, 60, 61, 62] (by decide +kernel) (by decide +kernel)
set_option maxRecDepth 20000 in
theorem gX0_findPossible_X0_takesBow : GoodIn wsX0_findPossible (wsV RX0 66 RX0 yX0_takesBow wsX0_takesBow) := goodIn_app (goodIn_of _ (by decide +kernel)) ggX0_findPossible_X0_takesBow
theorem dX0_findPossible_0 : decode cX0_findPossible 0 = .ok (.iconst 0, 1) := by decide +kernel
theorem dX0_findPossible_1 : decode cX0_findPossible 1 = .ok (.istore_n 1, 1) := by decide +kernel
theorem dX0_findPossible_2 : decode cX0_findPossible 2 = .ok (.iload_n 1, 1) := by decide +kernel
theorem dX0_findPossible_3 : decode cX0_findPossible 3 = .ok (.bipush 48, 2) := by decide +kernel
theorem dX0_findPossible_5 : decode cX0_findPossible 5 = .ok (.if_icmp .ge 16, 3) := by decide +kernel
theorem dX0_findPossible_8 : decode cX0_findPossible 8 = .ok (.aload_n 0, 1) := by decide +kernel
theorem dX0_findPossible_9 : decode cX0_findPossible 9 = .ok (.getfield 19, 3) := by decide +kernel
theorem dX0_findPossible_12 : decode cX0_findPossible 12 = .ok (.iload_n 1, 1) := by decide +kernel
theorem dX0_findPossible_13 : decode cX0_findPossible 13 = .ok (.iconst 0, 1) := by decide +kernel
theorem dX0_findPossible_14 : decode cX0_findPossible 14 = .ok (.bastore, 1) := by decide +kernel
theorem dX0_findPossible_15 : decode cX0_findPossible 15 = .ok (.iinc 1 1, 3) := by decide +kernel
theorem dX0_findPossible_18 : decode cX0_findPossible 18 = .ok (.goto (-16), 3) := by decide +kernel
theorem dX0_findPossible_21 : decode cX0_findPossible 21 = .ok (.aload_n 0, 1) := by decide +kernel
theorem dX0_findPossible_22 : decode cX0_findPossible 22 = .ok (.iconst 0, 1) := by decide +kernel
theorem dX0_findPossible_23 : decode cX0_findPossible 23 = .ok (.putfield 15, 3) := by decide +kernel
theorem dX0_findPossible_26 : decode cX0_findPossible 26 = .ok (.iconst 0, 1) := by decide +kernel
theorem dX0_findPossible_27 : decode cX0_findPossible 27 = .ok (.istore_n 1, 1) := by decide +kernel
theorem dX0_findPossible_28 : decode cX0_findPossible 28 = .ok (.iload_n 1, 1) := by decide +kernel
theorem dX0_findPossible_29 : decode cX0_findPossible 29 = .ok (.bipush 48, 2) := by decide +kernel
theorem dX0_findPossible_31 : decode cX0_findPossible 31 = .ok (.if_icmp .ge 54, 3) := by decide +kernel
theorem dX0_findPossible_34 : decode cX0_findPossible 34 = .ok (.aload_n 0, 1) := by decide +kernel
theorem dX0_findPossible_35 : decode cX0_findPossible 35 = .ok (.iload_n 1, 1) := by decide +kernel
theorem dX0_findPossible_36 : decode cX0_findPossible 36 = .ok (.invokevirtual 58, 3) := by decide +kernel
theorem dX0_findPossible_39 : decode cX0_findPossible 39 = .ok (.ifCond .eq 40, 3) := by decide +kernel
theorem dX0_findPossible_42 : decode cX0_findPossible 42 = .ok (.aload_n 0, 1) := by decide +kernel
theorem dX0_findPossible_43 : decode cX0_findPossible 43 = .ok (.iload_n 1, 1) := by decide +kernel
theorem dX0_findPossible_44 : decode cX0_findPossible 44 = .ok (.invokevirtual 66, 3) := by decide +kernel
theorem dX0_findPossible_47 : decode cX0_findPossible 47 = .ok (.ifCond .eq 32, 3) := by decide +kernel
theorem dX0_findPossible_50 : decode cX0_findPossible 50 = .ok (.aload_n 0, 1) := by decide +kernel
theorem dX0_findPossible_51 : decode cX0_findPossible 51 = .ok (.getfield 15, 3) := by decide +kernel
theorem dX0_findPossible_54 : decode cX0_findPossible 54 = .ok (.bipush 48, 2) := by decide +kernel
theorem dX0_findPossible_56 : decode cX0_findPossible 56 = .ok (.if_icmp .ge 23, 3) := by decide +kernel
theorem dX0_findPossible_59 : decode cX0_findPossible 59 = .ok (.aload_n 0, 1) := by decide +kernel
theorem dX0_findPossible_60 : decode cX0_findPossible 60 = .ok (.getfield 9, 3) := by decide +kernel
theorem dX0_findPossible_63 : decode cX0_findPossible 63 = .ok (.aload_n 0, 1) := by decide +kernel
theorem dX0_findPossible_64 : decode cX0_findPossible 64 = .ok (.getfield 15, 3) := by decide +kernel
theorem dX0_findPossible_67 : decode cX0_findPossible 67 = .ok (.iload_n 1, 1) := by decide +kernel
theorem dX0_findPossible_68 : decode cX0_findPossible 68 = .ok (.iastore, 1) := by decide +kernel
theorem dX0_findPossible_69 : decode cX0_findPossible 69 = .ok (.aload_n 0, 1) := by decide +kernel
theorem dX0_findPossible_70 : decode cX0_findPossible 70 = .ok (.dup, 1) := by decide +kernel
theorem dX0_findPossible_71 : decode cX0_findPossible 71 = .ok (.getfield 15, 3) := by decide +kernel
theorem dX0_findPossible_74 : decode cX0_findPossible 74 = .ok (.iconst 1, 1) := by decide +kernel
theorem dX0_findPossible_75 : decode cX0_findPossible 75 = .ok (.iadd, 1) := by decide +kernel
theorem dX0_findPossible_76 : decode cX0_findPossible 76 = .ok (.putfield 15, 3) := by decide +kernel
theorem dX0_findPossible_79 : decode cX0_findPossible 79 = .ok (.iinc 1 1, 3) := by decide +kernel
theorem dX0_findPossible_82 : decode cX0_findPossible 82 = .ok (.goto (-54), 3) := by decide +kernel
theorem dX0_findPossible_85 : decode cX0_findPossible 85 = .ok (.return_, 1) := by decide +kernel
set_option maxRecDepth 20000 in
theorem ggX0_takesBow_X0_bowAllows : GoodIn wsX0_takesBow wsX0_bowAllows := goodIn_r _ [6, 7, 8, 9, 10, 5, 11, 12, 13, 14, 15, 16, 17, 18, 19, 20, 21, 22, 23, 24, 25, 26, 27, 28, 29, 30, 31, 32, 33, 34, 35, 36, 37, 38, 39, 40, 41, 42, 43, 44, 45, 46, 47, 48, 49, 50, 51, 52] (by decide +kernel) (by decide +kernel)
set_option maxRecDepth 20000 in
theorem gX0_takesBow_X0_bowAllows : GoodIn wsX0_takesBow (wsV RX0 54 RX0 yX0_bowAllows wsX0_bowAllows) := goodIn_app (goodIn_of _ (by decide +kernel)) ggX0_takesBow_X0_bowAllows
theorem dX0_takesBow_0 : decode cX0_takesBow 0 = .ok (.iconst 0, 1) := by decide +kernel
theorem dX0_takesBow_1 : decode cX0_takesBow 1 = .ok (.istore_n 2, 1) := by decide +kernel
theorem dX0_takesBow_2 : decode cX0_takesBow 2 = .ok (.iconst 0, 1) := by decide +kernel
theorem dX0_takesBow_3 : decode cX0_takesBow 3 = .ok (.istore_n 3, 1) := by decide +kernel
theorem dX0_takesBow_4 : decode cX0_takesBow 4 = .ok (.iload_n 3, 1) := by decide +kernel
theorem dX0_takesBow_5 : decode cX0_takesBow 5 = .ok (.bipush 48, 2) := by decide +kernel
theorem dX0_takesBow_7 : decode cX0_takesBow 7 = .ok (.if_icmp .ge 43, 3) := by decide +kernel
theorem dX0_takesBow_10 : decode cX0_takesBow 10 = .ok (.aload_n 0, 1) := by decide +kernel
theorem dX0_takesBow_11 : decode cX0_takesBow 11 = .ok (.getfield 19, 3) := by decide +kernel
theorem dX0_takesBow_14 : decode cX0_takesBow 14 = .ok (.iload_n 3, 1) := by decide +kernel
theorem dX0_takesBow_15 : decode cX0_takesBow 15 = .ok (.baload, 1) := by decide +kernel
theorem dX0_takesBow_16 : decode cX0_takesBow 16 = .ok (.ifCond .ne 28, 3) := by decide +kernel
theorem dX0_takesBow_19 : decode cX0_takesBow 19 = .ok (.aload_n 0, 1) := by decide +kernel
theorem dX0_takesBow_20 : decode cX0_takesBow 20 = .ok (.iload_n 1, 1) := by decide +kernel
theorem dX0_takesBow_21 : decode cX0_takesBow 21 = .ok (.iload_n 3, 1) := by decide +kernel
theorem dX0_takesBow_22 : decode cX0_takesBow 22 = .ok (.bipush 12, 2) := by decide +kernel
theorem dX0_takesBow_24 : decode cX0_takesBow 24 = .ok (.idiv, 1) := by decide +kernel
theorem dX0_takesBow_25 : decode cX0_takesBow 25 = .ok (.iload_n 3, 1) := by decide +kernel
theorem dX0_takesBow_26 : decode cX0_takesBow 26 = .ok (.bipush 12, 2) := by decide +kernel
theorem dX0_takesBow_28 : decode cX0_takesBow 28 = .ok (.irem, 1) := by decide +kernel
theorem dX0_takesBow_29 : decode cX0_takesBow 29 = .ok (.invokevirtual 54, 3) := by decide +kernel
theorem dX0_takesBow_32 : decode cX0_takesBow 32 = .ok (.ifCond .eq 12, 3) := by decide +kernel
theorem dX0_takesBow_35 : decode cX0_takesBow 35 = .ok (.aload_n 0, 1) := by decide +kernel
theorem dX0_takesBow_36 : decode cX0_takesBow 36 = .ok (.getfield 19, 3) := by decide +kernel
theorem dX0_takesBow_39 : decode cX0_takesBow 39 = .ok (.iload_n 3, 1) := by decide +kernel
theorem dX0_takesBow_40 : decode cX0_takesBow 40 = .ok (.iconst 1, 1) := by decide +kernel
theorem dX0_takesBow_41 : decode cX0_takesBow 41 = .ok (.bastore, 1) := by decide +kernel
theorem dX0_takesBow_42 : decode cX0_takesBow 42 = .ok (.iconst 1, 1) := by decide +kernel
theorem dX0_takesBow_43 : decode cX0_takesBow 43 = .ok (.istore_n 2, 1) := by decide +kernel
theorem dX0_takesBow_44 : decode cX0_takesBow 44 = .ok (.iinc 3 1, 3) := by decide +kernel
theorem dX0_takesBow_47 : decode cX0_takesBow 47 = .ok (.goto (-43), 3) := by decide +kernel
theorem dX0_takesBow_50 : decode cX0_takesBow 50 = .ok (.iload_n 2, 1) := by decide +kernel
theorem dX0_takesBow_51 : decode cX0_takesBow 51 = .ok (.ireturn, 1) := by decide +kernel
theorem dX1_init_0 : decode cX1_init 0 = .ok (.aload_n 0, 1) := by decide +kernel
theorem dX1_init_1 : decode cX1_init 1 = .ok (.invokespecial 3, 3) := by decide +kernel
theorem dX1_init_4 : decode cX1_init 4 = .ok (.aload_n 0, 1) := by decide +kernel
theorem dX1_init_5 : decode cX1_init 5 = .ok (.sipush 144, 3) := by decide +kernel
theorem dX1_init_8 : decode cX1_init 8 = .ok (.newarray .boolean, 2) := by decide +kernel
theorem dX1_init_10 : decode cX1_init 10 = .ok (.putfield 9, 3) := by decide +kernel
theorem dX1_init_13 : decode cX1_init 13 = .ok (.aload_n 0, 1) := by decide +kernel
theorem dX1_init_14 : decode cX1_init 14 = .ok (.sipush 144, 3) := by decide +kernel
theorem dX1_init_17 : decode cX1_init 17 = .ok (.newarray .int, 2) := by decide +kernel
theorem dX1_init_19 : decode cX1_init 19 = .ok (.putfield 15, 3) := by decide +kernel
theorem dX1_init_22 : decode cX1_init 22 = .ok (.aload_n 0, 1) := by decide +kernel
theorem dX1_init_23 : decode cX1_init 23 = .ok (.iconst 0, 1) := by decide +kernel
theorem dX1_init_24 : decode cX1_init 24 = .ok (.putfield 19, 3) := by decide +kernel
theorem dX1_init_27 : decode cX1_init 27 = .ok (.aload_n 0, 1) := by decide +kernel
theorem dX1_init_28 : decode cX1_init 28 = .ok (.aload_n 1, 1) := by decide +kernel
theorem dX1_init_29 : decode cX1_init 29 = .ok (.putfield 23, 3) := by decide +kernel
theorem dX1_init_32 : decode cX1_init 32 = .ok (.aload_n 0, 1) := by decide +kernel
theorem dX1_init_33 : decode cX1_init 33 = .ok (.aload_n 2, 1) := by decide +kernel
theorem dX1_init_34 : decode cX1_init 34 = .ok (.putfield 27, 3) := by decide +kernel
theorem dX1_init_37 : decode cX1_init 37 = .ok (.return_, 1) := by decide +kernel
set_option maxRecDepth 20000 in
theorem ggX1_isStill_X7_swingAt : GoodIn wsX1_isStill wsX7_swingAt := goodIn_r _ [7, 8, 9, 10, 11, 12, 13, 14, 15, 16, 17, 18, 19, 20, 38, 39, 40, 41, 42] (by decide +kernel) (by decide +kernel)
set_option maxRecDepth 20000 in
theorem gX1_isStill_X7_swingAt : GoodIn wsX1_isStill (wsV RX1 31 RX7 yX7_swingAt wsX7_swingAt) := goodIn_app (goodIn_of _ (by decide +kernel)) ggX1_isStill_X7_swingAt
theorem dX1_isStill_0 : decode cX1_isStill 0 = .ok (.aload_n 0, 1) := by decide +kernel
theorem dX1_isStill_1 : decode cX1_isStill 1 = .ok (.getfield 23, 3) := by decide +kernel
theorem dX1_isStill_4 : decode cX1_isStill 4 = .ok (.iload_n 1, 1) := by decide +kernel
theorem dX1_isStill_5 : decode cX1_isStill 5 = .ok (.iload_n 2, 1) := by decide +kernel
theorem dX1_isStill_6 : decode cX1_isStill 6 = .ok (.iload_n 3, 1) := by decide +kernel
theorem dX1_isStill_7 : decode cX1_isStill 7 = .ok (.invokevirtual 31, 3) := by decide +kernel
theorem dX1_isStill_10 : decode cX1_isStill 10 = .ok (.aload_n 0, 1) := by decide +kernel
theorem dX1_isStill_11 : decode cX1_isStill 11 = .ok (.getfield 27, 3) := by decide +kernel
theorem dX1_isStill_14 : decode cX1_isStill 14 = .ok (.getfield 37, 3) := by decide +kernel
theorem dX1_isStill_17 : decode cX1_isStill 17 = .ok (.iconst 2, 1) := by decide +kernel
theorem dX1_isStill_18 : decode cX1_isStill 18 = .ok (.iaload, 1) := by decide +kernel
theorem dX1_isStill_19 : decode cX1_isStill 19 = .ok (.if_icmp .gt 7, 3) := by decide +kernel
theorem dX1_isStill_22 : decode cX1_isStill 22 = .ok (.iconst 1, 1) := by decide +kernel
theorem dX1_isStill_23 : decode cX1_isStill 23 = .ok (.goto 4, 3) := by decide +kernel
theorem dX1_isStill_26 : decode cX1_isStill 26 = .ok (.iconst 0, 1) := by decide +kernel
theorem dX1_isStill_27 : decode cX1_isStill 27 = .ok (.ireturn, 1) := by decide +kernel
set_option maxRecDepth 20000 in
theorem ggX1_stillPlaces_X8_columnOf : GoodIn wsX1_stillPlaces wsX8_columnOf := goodIn_r _ [3] (by decide +kernel) (by decide +kernel)
set_option maxRecDepth 20000 in
theorem gX1_stillPlaces_X8_columnOf_n42 : GoodIn wsX1_stillPlaces (wsX8_columnOf) := ggX1_stillPlaces_X8_columnOf
set_option maxRecDepth 20000 in
theorem ggX1_stillPlaces_X8_rowOf : GoodIn wsX1_stillPlaces wsX8_rowOf := goodIn_r _ [5] (by decide +kernel) (by decide +kernel)
set_option maxRecDepth 20000 in
theorem gX1_stillPlaces_X8_rowOf_n46 : GoodIn wsX1_stillPlaces (wsX8_rowOf) := ggX1_stillPlaces_X8_rowOf
set_option maxRecDepth 20000 in
theorem ggX1_stillPlaces_X1_isStill : GoodIn wsX1_stillPlaces wsX1_isStill := goodIn_r _ [10, 11, 12, 13, 14, 15, 16, 17, 18, 19, 20, 21, 22, 23, 24, 25, 26, 2, 27, 28, 29, 30, 31, 32, 33, 34, 35, 36, 37, 38, 39, 40, 41, 42, 43, 44, 45, 46, 47, 48, 49, 50, 51] (by decide +kernel) (by decide +kernel)
set_option maxRecDepth 20000 in
theorem gX1_stillPlaces_X1_isStill : GoodIn wsX1_stillPlaces (wsV RX1 49 RX1 yX1_isStill wsX1_isStill) := goodIn_app (goodIn_of _ (by decide +kernel)) ggX1_stillPlaces_X1_isStill
theorem dX1_stillPlaces_0 : decode cX1_stillPlaces 0 = .ok (.iconst 0, 1) := by decide +kernel
theorem dX1_stillPlaces_1 : decode cX1_stillPlaces 1 = .ok (.istore_n 2, 1) := by decide +kernel
theorem dX1_stillPlaces_2 : decode cX1_stillPlaces 2 = .ok (.iconst 0, 1) := by decide +kernel
theorem dX1_stillPlaces_3 : decode cX1_stillPlaces 3 = .ok (.istore_n 3, 1) := by decide +kernel
theorem dX1_stillPlaces_4 : decode cX1_stillPlaces 4 = .ok (.iload_n 3, 1) := by decide +kernel
theorem dX1_stillPlaces_5 : decode cX1_stillPlaces 5 = .ok (.sipush 144, 3) := by decide +kernel
theorem dX1_stillPlaces_8 : decode cX1_stillPlaces 8 = .ok (.if_icmp .ge 28, 3) := by decide +kernel
theorem dX1_stillPlaces_11 : decode cX1_stillPlaces 11 = .ok (.aload_n 0, 1) := by decide +kernel
theorem dX1_stillPlaces_12 : decode cX1_stillPlaces 12 = .ok (.iload_n 1, 1) := by decide +kernel
theorem dX1_stillPlaces_13 : decode cX1_stillPlaces 13 = .ok (.iload_n 3, 1) := by decide +kernel
theorem dX1_stillPlaces_14 : decode cX1_stillPlaces 14 = .ok (.invokestatic 42, 3) := by decide +kernel
theorem dX1_stillPlaces_17 : decode cX1_stillPlaces 17 = .ok (.iload_n 3, 1) := by decide +kernel
theorem dX1_stillPlaces_18 : decode cX1_stillPlaces 18 = .ok (.invokestatic 46, 3) := by decide +kernel
theorem dX1_stillPlaces_21 : decode cX1_stillPlaces 21 = .ok (.invokevirtual 49, 3) := by decide +kernel
theorem dX1_stillPlaces_24 : decode cX1_stillPlaces 24 = .ok (.ifCond .eq 6, 3) := by decide +kernel
theorem dX1_stillPlaces_27 : decode cX1_stillPlaces 27 = .ok (.iinc 2 1, 3) := by decide +kernel
theorem dX1_stillPlaces_30 : decode cX1_stillPlaces 30 = .ok (.iinc 3 1, 3) := by decide +kernel
theorem dX1_stillPlaces_33 : decode cX1_stillPlaces 33 = .ok (.goto (-29), 3) := by decide +kernel
theorem dX1_stillPlaces_36 : decode cX1_stillPlaces 36 = .ok (.iload_n 2, 1) := by decide +kernel
theorem dX1_stillPlaces_37 : decode cX1_stillPlaces 37 = .ok (.ireturn, 1) := by decide +kernel
set_option maxRecDepth 20000 in
theorem ggX1_grainsOnLines_X8_columnOf : GoodIn wsX1_grainsOnLines wsX8_columnOf := goodIn_r _ [4] (by decide +kernel) (by decide +kernel)
set_option maxRecDepth 20000 in
theorem gX1_grainsOnLines_X8_columnOf_n42 : GoodIn wsX1_grainsOnLines (wsX8_columnOf) := ggX1_grainsOnLines_X8_columnOf
set_option maxRecDepth 20000 in
theorem ggX1_grainsOnLines_X8_rowOf : GoodIn wsX1_grainsOnLines wsX8_rowOf := goodIn_r _ [6] (by decide +kernel) (by decide +kernel)
set_option maxRecDepth 20000 in
theorem gX1_grainsOnLines_X8_rowOf_n46 : GoodIn wsX1_grainsOnLines (wsX8_rowOf) := ggX1_grainsOnLines_X8_rowOf
set_option maxRecDepth 20000 in
theorem ggX1_grainsOnLines_X1_isStill : GoodIn wsX1_grainsOnLines wsX1_isStill := goodIn_r _ [11, 12, 1, 13, 14, 15, 16, 17, 18, 19, 20, 21, 22, 23, 24, 25, 26, 3, 27, 28, 29, 30, 31, 32, 33, 34, 35, 36, 37, 38, 39, 40, 41, 42, 43, 44, 45, 46, 47, 48, 49, 50, 51] (by decide +kernel) (by decide +kernel)
set_option maxRecDepth 20000 in
theorem gX1_grainsOnLines_X1_isStill : GoodIn wsX1_grainsOnLines (wsV RX1 49 RX1 yX1_isStill wsX1_isStill) := goodIn_app (goodIn_of _ (by decide +kernel)) ggX1_grainsOnLines_X1_isStill
theorem dX1_grainsOnLines_0 : decode cX1_grainsOnLines 0 = .ok (.iconst 0, 1) := by decide +kernel
theorem dX1_grainsOnLines_1 : decode cX1_grainsOnLines 1 = .ok (.istore_n 2, 1) := by decide +kernel
theorem dX1_grainsOnLines_2 : decode cX1_grainsOnLines 2 = .ok (.iconst 0, 1) := by decide +kernel
theorem dX1_grainsOnLines_3 : decode cX1_grainsOnLines 3 = .ok (.istore_n 3, 1) := by decide +kernel
theorem dX1_grainsOnLines_4 : decode cX1_grainsOnLines 4 = .ok (.iload_n 3, 1) := by decide +kernel
theorem dX1_grainsOnLines_5 : decode cX1_grainsOnLines 5 = .ok (.sipush 144, 3) := by decide +kernel
theorem dX1_grainsOnLines_8 : decode cX1_grainsOnLines 8 = .ok (.if_icmp .ge 37, 3) := by decide +kernel
theorem dX1_grainsOnLines_11 : decode cX1_grainsOnLines 11 = .ok (.aload_n 0, 1) := by decide +kernel
theorem dX1_grainsOnLines_12 : decode cX1_grainsOnLines 12 = .ok (.iload_n 1, 1) := by decide +kernel
theorem dX1_grainsOnLines_13 : decode cX1_grainsOnLines 13 = .ok (.iload_n 3, 1) := by decide +kernel
theorem dX1_grainsOnLines_14 : decode cX1_grainsOnLines 14 = .ok (.invokestatic 42, 3) := by decide +kernel
theorem dX1_grainsOnLines_17 : decode cX1_grainsOnLines 17 = .ok (.iload_n 3, 1) := by decide +kernel
theorem dX1_grainsOnLines_18 : decode cX1_grainsOnLines 18 = .ok (.invokestatic 46, 3) := by decide +kernel
theorem dX1_grainsOnLines_21 : decode cX1_grainsOnLines 21 = .ok (.invokevirtual 49, 3) := by decide +kernel
theorem dX1_grainsOnLines_24 : decode cX1_grainsOnLines 24 = .ok (.ifCond .eq 15, 3) := by decide +kernel
theorem dX1_grainsOnLines_27 : decode cX1_grainsOnLines 27 = .ok (.iload_n 2, 1) := by decide +kernel
theorem dX1_grainsOnLines_28 : decode cX1_grainsOnLines 28 = .ok (.aload_n 0, 1) := by decide +kernel
theorem dX1_grainsOnLines_29 : decode cX1_grainsOnLines 29 = .ok (.getfield 27, 3) := by decide +kernel
theorem dX1_grainsOnLines_32 : decode cX1_grainsOnLines 32 = .ok (.getfield 53, 3) := by decide +kernel
theorem dX1_grainsOnLines_35 : decode cX1_grainsOnLines 35 = .ok (.iload_n 3, 1) := by decide +kernel
theorem dX1_grainsOnLines_36 : decode cX1_grainsOnLines 36 = .ok (.iaload, 1) := by decide +kernel
theorem dX1_grainsOnLines_37 : decode cX1_grainsOnLines 37 = .ok (.iadd, 1) := by decide +kernel
theorem dX1_grainsOnLines_38 : decode cX1_grainsOnLines 38 = .ok (.istore_n 2, 1) := by decide +kernel
theorem dX1_grainsOnLines_39 : decode cX1_grainsOnLines 39 = .ok (.iinc 3 1, 3) := by decide +kernel
theorem dX1_grainsOnLines_42 : decode cX1_grainsOnLines 42 = .ok (.goto (-38), 3) := by decide +kernel
theorem dX1_grainsOnLines_45 : decode cX1_grainsOnLines 45 = .ok (.iload_n 2, 1) := by decide +kernel
theorem dX1_grainsOnLines_46 : decode cX1_grainsOnLines 46 = .ok (.ireturn, 1) := by decide +kernel
set_option maxRecDepth 20000 in
theorem ggX1_lines_X8_columnOf : GoodIn wsX1_lines wsX8_columnOf := goodIn_r _ [4] (by decide +kernel) (by decide +kernel)
set_option maxRecDepth 20000 in
theorem gX1_lines_X8_columnOf_n42 : GoodIn wsX1_lines (wsX8_columnOf) := ggX1_lines_X8_columnOf
set_option maxRecDepth 20000 in
theorem ggX1_lines_X8_rowOf : GoodIn wsX1_lines wsX8_rowOf := goodIn_r _ [6] (by decide +kernel) (by decide +kernel)
set_option maxRecDepth 20000 in
theorem gX1_lines_X8_rowOf_n46 : GoodIn wsX1_lines (wsX8_rowOf) := ggX1_lines_X8_rowOf
set_option maxRecDepth 20000 in
theorem ggX1_lines_X1_isStill : GoodIn wsX1_lines wsX1_isStill := goodIn_r _ [11, 12, 13, 14, 15, 16, 17, 18, 19, 20, 21, 22, 23, 24, 25, 26, 27, 3, 28, 29, 30, 43, 44, 45, 46, 47, 48, 49, 50, 51, 52, 53, 54, 55, 56, 57, 58, 59, 60, 61, 62, 63, 64] (by decide +kernel) (by decide +kernel)
set_option maxRecDepth 20000 in
theorem gX1_lines_X1_isStill : GoodIn wsX1_lines (wsV RX1 49 RX1 yX1_isStill wsX1_isStill) := goodIn_app (goodIn_of _ (by decide +kernel)) ggX1_lines_X1_isStill
set_option maxRecDepth 20000 in
theorem ggX1_lines_X1_closeLine : GoodIn wsX1_lines wsX1_closeLine := goodIn_r _ [34, 35, 36, 2, 3, 4, 5, 6, 37, 38, 39, 10, 40, 1, 29, 30, 41, 42, 43, 44, 45, 46, 47] (by decide +kernel) (by decide +kernel)
set_option maxRecDepth 20000 in
theorem gX1_lines_X1_closeLine : GoodIn wsX1_lines (wsV RX1 56 RX1 yX1_closeLine wsX1_closeLine) := goodIn_app (goodIn_of _ (by decide +kernel)) ggX1_lines_X1_closeLine
theorem dX1_lines_0 : decode cX1_lines 0 = .ok (.iconst 0, 1) := by decide +kernel
theorem dX1_lines_1 : decode cX1_lines 1 = .ok (.istore_n 2, 1) := by decide +kernel
theorem dX1_lines_2 : decode cX1_lines 2 = .ok (.iload_n 2, 1) := by decide +kernel
theorem dX1_lines_3 : decode cX1_lines 3 = .ok (.sipush 144, 3) := by decide +kernel
theorem dX1_lines_6 : decode cX1_lines 6 = .ok (.if_icmp .ge 28, 3) := by decide +kernel
theorem dX1_lines_9 : decode cX1_lines 9 = .ok (.aload_n 0, 1) := by decide +kernel
theorem dX1_lines_10 : decode cX1_lines 10 = .ok (.getfield 9, 3) := by decide +kernel
theorem dX1_lines_13 : decode cX1_lines 13 = .ok (.iload_n 2, 1) := by decide +kernel
theorem dX1_lines_14 : decode cX1_lines 14 = .ok (.aload_n 0, 1) := by decide +kernel
theorem dX1_lines_15 : decode cX1_lines 15 = .ok (.iload_n 1, 1) := by decide +kernel
theorem dX1_lines_16 : decode cX1_lines 16 = .ok (.iload_n 2, 1) := by decide +kernel
theorem dX1_lines_17 : decode cX1_lines 17 = .ok (.invokestatic 42, 3) := by decide +kernel
theorem dX1_lines_20 : decode cX1_lines 20 = .ok (.iload_n 2, 1) := by decide +kernel
theorem dX1_lines_21 : decode cX1_lines 21 = .ok (.invokestatic 46, 3) := by decide +kernel
theorem dX1_lines_24 : decode cX1_lines 24 = .ok (.invokevirtual 49, 3) := by decide +kernel
theorem dX1_lines_27 : decode cX1_lines 27 = .ok (.bastore, 1) := by decide +kernel
theorem dX1_lines_28 : decode cX1_lines 28 = .ok (.iinc 2 1, 3) := by decide +kernel
theorem dX1_lines_31 : decode cX1_lines 31 = .ok (.goto (-29), 3) := by decide +kernel
theorem dX1_lines_34 : decode cX1_lines 34 = .ok (.iconst 0, 1) := by decide +kernel
theorem dX1_lines_35 : decode cX1_lines 35 = .ok (.istore_n 2, 1) := by decide +kernel
theorem dX1_lines_36 : decode cX1_lines 36 = .ok (.iconst 0, 1) := by decide +kernel
theorem dX1_lines_37 : decode cX1_lines 37 = .ok (.istore_n 3, 1) := by decide +kernel
theorem dX1_lines_38 : decode cX1_lines 38 = .ok (.iload_n 3, 1) := by decide +kernel
theorem dX1_lines_39 : decode cX1_lines 39 = .ok (.sipush 144, 3) := by decide +kernel
theorem dX1_lines_42 : decode cX1_lines 42 = .ok (.if_icmp .ge 26, 3) := by decide +kernel
theorem dX1_lines_45 : decode cX1_lines 45 = .ok (.aload_n 0, 1) := by decide +kernel
theorem dX1_lines_46 : decode cX1_lines 46 = .ok (.getfield 9, 3) := by decide +kernel
theorem dX1_lines_49 : decode cX1_lines 49 = .ok (.iload_n 3, 1) := by decide +kernel
theorem dX1_lines_50 : decode cX1_lines 50 = .ok (.baload, 1) := by decide +kernel
theorem dX1_lines_51 : decode cX1_lines 51 = .ok (.ifCond .eq 11, 3) := by decide +kernel
theorem dX1_lines_54 : decode cX1_lines 54 = .ok (.iinc 2 1, 3) := by decide +kernel
theorem dX1_lines_57 : decode cX1_lines 57 = .ok (.aload_n 0, 1) := by decide +kernel
theorem dX1_lines_58 : decode cX1_lines 58 = .ok (.iload_n 3, 1) := by decide +kernel
theorem dX1_lines_59 : decode cX1_lines 59 = .ok (.invokevirtual 56, 3) := by decide +kernel
theorem dX1_lines_62 : decode cX1_lines 62 = .ok (.iinc 3 1, 3) := by decide +kernel
theorem dX1_lines_65 : decode cX1_lines 65 = .ok (.goto (-27), 3) := by decide +kernel
theorem dX1_lines_68 : decode cX1_lines 68 = .ok (.iload_n 2, 1) := by decide +kernel
theorem dX1_lines_69 : decode cX1_lines 69 = .ok (.ireturn, 1) := by decide +kernel
set_option maxRecDepth 20000 in
theorem ggX1_closeLine_X8_columnOf : GoodIn wsX1_closeLine wsX8_columnOf := goodIn_r _ [5] (by decide +kernel) (by decide +kernel)
set_option maxRecDepth 20000 in
theorem gX1_closeLine_X8_columnOf_n42 : GoodIn wsX1_closeLine (wsX8_columnOf) := ggX1_closeLine_X8_columnOf
set_option maxRecDepth 20000 in
theorem ggX1_closeLine_X8_rowOf : GoodIn wsX1_closeLine wsX8_rowOf := goodIn_r _ [7] (by decide +kernel) (by decide +kernel)
set_option maxRecDepth 20000 in
theorem gX1_closeLine_X8_rowOf_n46 : GoodIn wsX1_closeLine (wsX8_rowOf) := ggX1_closeLine_X8_rowOf
set_option maxRecDepth 20000 in
theorem ggX1_closeLine_X1_reach : GoodIn wsX1_closeLine wsX1_reach := goodIn_r _ [12, 13, 1, 2, 14, 4, 15, 16, 17, 18, 19, 20, 21, 22] (by decide +kernel) (by decide +kernel)
set_option maxRecDepth 20000 in
theorem gX1_closeLine_X1_reach : GoodIn wsX1_closeLine (wsV RX1 60 RX1 yX1_reach wsX1_reach) := goodIn_app (goodIn_of _ (by decide +kernel)) ggX1_closeLine_X1_reach
theorem dX1_closeLine_0 : decode cX1_closeLine 0 = .ok (.aload_n 0, 1) := by decide +kernel
theorem dX1_closeLine_1 : decode cX1_closeLine 1 = .ok (.iconst 0, 1) := by decide +kernel
theorem dX1_closeLine_2 : decode cX1_closeLine 2 = .ok (.putfield 19, 3) := by decide +kernel
theorem dX1_closeLine_5 : decode cX1_closeLine 5 = .ok (.aload_n 0, 1) := by decide +kernel
theorem dX1_closeLine_6 : decode cX1_closeLine 6 = .ok (.iload_n 1, 1) := by decide +kernel
theorem dX1_closeLine_7 : decode cX1_closeLine 7 = .ok (.invokestatic 42, 3) := by decide +kernel
theorem dX1_closeLine_10 : decode cX1_closeLine 10 = .ok (.iload_n 1, 1) := by decide +kernel
theorem dX1_closeLine_11 : decode cX1_closeLine 11 = .ok (.invokestatic 46, 3) := by decide +kernel
theorem dX1_closeLine_14 : decode cX1_closeLine 14 = .ok (.invokevirtual 60, 3) := by decide +kernel
theorem dX1_closeLine_17 : decode cX1_closeLine 17 = .ok (.iconst 0, 1) := by decide +kernel
theorem dX1_closeLine_18 : decode cX1_closeLine 18 = .ok (.istore_n 2, 1) := by decide +kernel
theorem dX1_closeLine_19 : decode cX1_closeLine 19 = .ok (.iload_n 2, 1) := by decide +kernel
theorem dX1_closeLine_20 : decode cX1_closeLine 20 = .ok (.aload_n 0, 1) := by decide +kernel
theorem dX1_closeLine_21 : decode cX1_closeLine 21 = .ok (.getfield 19, 3) := by decide +kernel
theorem dX1_closeLine_24 : decode cX1_closeLine 24 = .ok (.if_icmp .ge 73, 3) := by decide +kernel
theorem dX1_closeLine_27 : decode cX1_closeLine 27 = .ok (.iload_n 2, 1) := by decide +kernel
theorem dX1_closeLine_28 : decode cX1_closeLine 28 = .ok (.sipush 144, 3) := by decide +kernel
theorem dX1_closeLine_31 : decode cX1_closeLine 31 = .ok (.if_icmp .ge 66, 3) := by decide +kernel
theorem dX1_closeLine_34 : decode cX1_closeLine 34 = .ok (.aload_n 0, 1) := by decide +kernel
theorem dX1_closeLine_35 : decode cX1_closeLine 35 = .ok (.getfield 15, 3) := by decide +kernel
theorem dX1_closeLine_38 : decode cX1_closeLine 38 = .ok (.iload_n 2, 1) := by decide +kernel
theorem dX1_closeLine_39 : decode cX1_closeLine 39 = .ok (.iaload, 1) := by decide +kernel
theorem dX1_closeLine_40 : decode cX1_closeLine 40 = .ok (.invokestatic 42, 3) := by decide +kernel
theorem dX1_closeLine_43 : decode cX1_closeLine 43 = .ok (.istore_n 3, 1) := by decide +kernel
theorem dX1_closeLine_44 : decode cX1_closeLine 44 = .ok (.aload_n 0, 1) := by decide +kernel
theorem dX1_closeLine_45 : decode cX1_closeLine 45 = .ok (.getfield 15, 3) := by decide +kernel
theorem dX1_closeLine_48 : decode cX1_closeLine 48 = .ok (.iload_n 2, 1) := by decide +kernel
theorem dX1_closeLine_49 : decode cX1_closeLine 49 = .ok (.iaload, 1) := by decide +kernel
theorem dX1_closeLine_50 : decode cX1_closeLine 50 = .ok (.invokestatic 46, 3) := by decide +kernel
theorem dX1_closeLine_53 : decode cX1_closeLine 53 = .ok (.istore 4, 2) := by decide +kernel
theorem dX1_closeLine_55 : decode cX1_closeLine 55 = .ok (.aload_n 0, 1) := by decide +kernel
theorem dX1_closeLine_56 : decode cX1_closeLine 56 = .ok (.iload_n 3, 1) := by decide +kernel
theorem dX1_closeLine_57 : decode cX1_closeLine 57 = .ok (.iload 4, 2) := by decide +kernel
theorem dX1_closeLine_59 : decode cX1_closeLine 59 = .ok (.iconst 1, 1) := by decide +kernel
theorem dX1_closeLine_60 : decode cX1_closeLine 60 = .ok (.isub, 1) := by decide +kernel
theorem dX1_closeLine_61 : decode cX1_closeLine 61 = .ok (.invokevirtual 60, 3) := by decide +kernel
theorem dX1_closeLine_64 : decode cX1_closeLine 64 = .ok (.aload_n 0, 1) := by decide +kernel
theorem dX1_closeLine_65 : decode cX1_closeLine 65 = .ok (.iload_n 3, 1) := by decide +kernel
theorem dX1_closeLine_66 : decode cX1_closeLine 66 = .ok (.iconst 1, 1) := by decide +kernel
theorem dX1_closeLine_67 : decode cX1_closeLine 67 = .ok (.isub, 1) := by decide +kernel
theorem dX1_closeLine_68 : decode cX1_closeLine 68 = .ok (.iload 4, 2) := by decide +kernel
theorem dX1_closeLine_70 : decode cX1_closeLine 70 = .ok (.invokevirtual 60, 3) := by decide +kernel
theorem dX1_closeLine_73 : decode cX1_closeLine 73 = .ok (.aload_n 0, 1) := by decide +kernel
theorem dX1_closeLine_74 : decode cX1_closeLine 74 = .ok (.iload_n 3, 1) := by decide +kernel
theorem dX1_closeLine_75 : decode cX1_closeLine 75 = .ok (.iconst 1, 1) := by decide +kernel
theorem dX1_closeLine_76 : decode cX1_closeLine 76 = .ok (.iadd, 1) := by decide +kernel
theorem dX1_closeLine_77 : decode cX1_closeLine 77 = .ok (.iload 4, 2) := by decide +kernel
theorem dX1_closeLine_79 : decode cX1_closeLine 79 = .ok (.invokevirtual 60, 3) := by decide +kernel
theorem dX1_closeLine_82 : decode cX1_closeLine 82 = .ok (.aload_n 0, 1) := by decide +kernel
theorem dX1_closeLine_83 : decode cX1_closeLine 83 = .ok (.iload_n 3, 1) := by decide +kernel
theorem dX1_closeLine_84 : decode cX1_closeLine 84 = .ok (.iload 4, 2) := by decide +kernel
theorem dX1_closeLine_86 : decode cX1_closeLine 86 = .ok (.iconst 1, 1) := by decide +kernel
theorem dX1_closeLine_87 : decode cX1_closeLine 87 = .ok (.iadd, 1) := by decide +kernel
theorem dX1_closeLine_88 : decode cX1_closeLine 88 = .ok (.invokevirtual 60, 3) := by decide +kernel
theorem dX1_closeLine_91 : decode cX1_closeLine 91 = .ok (.iinc 2 1, 3) := by decide +kernel
theorem dX1_closeLine_94 : decode cX1_closeLine 94 = .ok (.goto (-75), 3) := by decide +kernel
theorem dX1_closeLine_97 : decode cX1_closeLine 97 = .ok (.return_, 1) := by decide +kernel
set_option maxRecDepth 20000 in
theorem ggX1_reach_X8_isPlace : GoodIn wsX1_reach wsX8_isPlace := goodIn_r _ [6] (by decide +kernel) (by decide +kernel)
set_option maxRecDepth 20000 in
theorem gX1_reach_X8_isPlace_n64 : GoodIn wsX1_reach (wsX8_isPlace) := ggX1_reach_X8_isPlace
set_option maxRecDepth 20000 in
theorem ggX1_reach_X8_placeOf : GoodIn wsX1_reach wsX8_placeOf := goodIn_r _ [8] (by decide +kernel) (by decide +kernel)
set_option maxRecDepth 20000 in
theorem gX1_reach_X8_placeOf_n68 : GoodIn wsX1_reach (wsX8_placeOf) := ggX1_reach_X8_placeOf
theorem dX1_reach_0 : decode cX1_reach 0 = .ok (.iload_n 1, 1) := by decide +kernel
theorem dX1_reach_1 : decode cX1_reach 1 = .ok (.iload_n 2, 1) := by decide +kernel
theorem dX1_reach_2 : decode cX1_reach 2 = .ok (.invokestatic 64, 3) := by decide +kernel
theorem dX1_reach_5 : decode cX1_reach 5 = .ok (.ifCond .eq 61, 3) := by decide +kernel
theorem dX1_reach_8 : decode cX1_reach 8 = .ok (.aload_n 0, 1) := by decide +kernel
theorem dX1_reach_9 : decode cX1_reach 9 = .ok (.getfield 9, 3) := by decide +kernel
theorem dX1_reach_12 : decode cX1_reach 12 = .ok (.iload_n 1, 1) := by decide +kernel
theorem dX1_reach_13 : decode cX1_reach 13 = .ok (.iload_n 2, 1) := by decide +kernel
theorem dX1_reach_14 : decode cX1_reach 14 = .ok (.invokestatic 68, 3) := by decide +kernel
theorem dX1_reach_17 : decode cX1_reach 17 = .ok (.baload, 1) := by decide +kernel
theorem dX1_reach_18 : decode cX1_reach 18 = .ok (.ifCond .eq 48, 3) := by decide +kernel
theorem dX1_reach_21 : decode cX1_reach 21 = .ok (.aload_n 0, 1) := by decide +kernel
theorem dX1_reach_22 : decode cX1_reach 22 = .ok (.getfield 19, 3) := by decide +kernel
theorem dX1_reach_25 : decode cX1_reach 25 = .ok (.sipush 144, 3) := by decide +kernel
theorem dX1_reach_28 : decode cX1_reach 28 = .ok (.if_icmp .ge 38, 3) := by decide +kernel
theorem dX1_reach_31 : decode cX1_reach 31 = .ok (.aload_n 0, 1) := by decide +kernel
theorem dX1_reach_32 : decode cX1_reach 32 = .ok (.getfield 9, 3) := by decide +kernel
theorem dX1_reach_35 : decode cX1_reach 35 = .ok (.iload_n 1, 1) := by decide +kernel
theorem dX1_reach_36 : decode cX1_reach 36 = .ok (.iload_n 2, 1) := by decide +kernel
theorem dX1_reach_37 : decode cX1_reach 37 = .ok (.invokestatic 68, 3) := by decide +kernel
theorem dX1_reach_40 : decode cX1_reach 40 = .ok (.iconst 0, 1) := by decide +kernel
theorem dX1_reach_41 : decode cX1_reach 41 = .ok (.bastore, 1) := by decide +kernel
theorem dX1_reach_42 : decode cX1_reach 42 = .ok (.aload_n 0, 1) := by decide +kernel
theorem dX1_reach_43 : decode cX1_reach 43 = .ok (.getfield 15, 3) := by decide +kernel
theorem dX1_reach_46 : decode cX1_reach 46 = .ok (.aload_n 0, 1) := by decide +kernel
theorem dX1_reach_47 : decode cX1_reach 47 = .ok (.getfield 19, 3) := by decide +kernel
theorem dX1_reach_50 : decode cX1_reach 50 = .ok (.iload_n 1, 1) := by decide +kernel
theorem dX1_reach_51 : decode cX1_reach 51 = .ok (.iload_n 2, 1) := by decide +kernel
theorem dX1_reach_52 : decode cX1_reach 52 = .ok (.invokestatic 68, 3) := by decide +kernel
theorem dX1_reach_55 : decode cX1_reach 55 = .ok (.iastore, 1) := by decide +kernel
theorem dX1_reach_56 : decode cX1_reach 56 = .ok (.aload_n 0, 1) := by decide +kernel
theorem dX1_reach_57 : decode cX1_reach 57 = .ok (.dup, 1) := by decide +kernel
theorem dX1_reach_58 : decode cX1_reach 58 = .ok (.getfield 19, 3) := by decide +kernel
theorem dX1_reach_61 : decode cX1_reach 61 = .ok (.iconst 1, 1) := by decide +kernel
theorem dX1_reach_62 : decode cX1_reach 62 = .ok (.iadd, 1) := by decide +kernel
theorem dX1_reach_63 : decode cX1_reach 63 = .ok (.putfield 19, 3) := by decide +kernel
theorem dX1_reach_66 : decode cX1_reach 66 = .ok (.return_, 1) := by decide +kernel
set_option maxRecDepth 20000 in
theorem ggX2_init_X5_init : GoodIn wsX2_init wsX5_init := goodIn_r _ [12, 13, 2, 3, 14, 15, 16, 17, 18, 19, 20, 21, 22, 23, 24, 25, 26, 27, 28, 29, 30, 31, 32, 33, 34, 35, 36, 37, 38, 39, 40, 41, 42, 43, 44, 45, 46, 47, 48, 49, 9, 50, 54, 55, 56, 57, 58, 59, 60, 61, 62, 63, 64, 65, 66, 67, 68, 69, 70] (by decide +kernel) (by decide +kernel)
set_option maxRecDepth 20000 in
theorem gX2_init_X5_init : GoodIn wsX2_init (wsX5_init) := ggX2_init_X5_init
theorem dX2_init_0 : decode cX2_init 0 = .ok (.aload_n 0, 1) := by decide +kernel
theorem dX2_init_1 : decode cX2_init 1 = .ok (.invokespecial 3, 3) := by decide +kernel
theorem dX2_init_4 : decode cX2_init 4 = .ok (.aload_n 0, 1) := by decide +kernel
theorem dX2_init_5 : decode cX2_init 5 = .ok (.iconst 4, 1) := by decide +kernel
theorem dX2_init_6 : decode cX2_init 6 = .ok (.anewarray 9, 3) := by decide +kernel
theorem dX2_init_9 : decode cX2_init 9 = .ok (.putfield 11, 3) := by decide +kernel
theorem dX2_init_12 : decode cX2_init 12 = .ok (.aload_n 0, 1) := by decide +kernel
theorem dX2_init_13 : decode cX2_init 13 = .ok (.iconst 0, 1) := by decide +kernel
theorem dX2_init_14 : decode cX2_init 14 = .ok (.putfield 17, 3) := by decide +kernel
theorem dX2_init_17 : decode cX2_init 17 = .ok (.aload_n 0, 1) := by decide +kernel
theorem dX2_init_18 : decode cX2_init 18 = .ok (.iconst 0, 1) := by decide +kernel
theorem dX2_init_19 : decode cX2_init 19 = .ok (.putfield 21, 3) := by decide +kernel
theorem dX2_init_22 : decode cX2_init 22 = .ok (.iconst 0, 1) := by decide +kernel
theorem dX2_init_23 : decode cX2_init 23 = .ok (.istore_n 1, 1) := by decide +kernel
theorem dX2_init_24 : decode cX2_init 24 = .ok (.iload_n 1, 1) := by decide +kernel
theorem dX2_init_25 : decode cX2_init 25 = .ok (.iconst 4, 1) := by decide +kernel
theorem dX2_init_26 : decode cX2_init 26 = .ok (.if_icmp .ge 22, 3) := by decide +kernel
theorem dX2_init_29 : decode cX2_init 29 = .ok (.aload_n 0, 1) := by decide +kernel
theorem dX2_init_30 : decode cX2_init 30 = .ok (.getfield 11, 3) := by decide +kernel
theorem dX2_init_33 : decode cX2_init 33 = .ok (.iload_n 1, 1) := by decide +kernel
theorem dX2_init_34 : decode cX2_init 34 = .ok (.new 9, 3) := by decide +kernel
theorem dX2_init_37 : decode cX2_init 37 = .ok (.dup, 1) := by decide +kernel
theorem dX2_init_38 : decode cX2_init 38 = .ok (.invokespecial 24, 3) := by decide +kernel
theorem dX2_init_41 : decode cX2_init 41 = .ok (.aastore, 1) := by decide +kernel
theorem dX2_init_42 : decode cX2_init 42 = .ok (.iinc 1 1, 3) := by decide +kernel
theorem dX2_init_45 : decode cX2_init 45 = .ok (.goto (-21), 3) := by decide +kernel
theorem dX2_init_48 : decode cX2_init 48 = .ok (.return_, 1) := by decide +kernel
set_option maxRecDepth 20000 in
theorem ggX2_record_X5_copyFrom : GoodIn wsX2_record wsX5_copyFrom := goodIn_r _ [8, 9, 10, 11, 12, 13, 14, 15, 16, 17, 18, 19, 20, 21, 22, 23, 24, 25, 26, 27, 28, 29, 30, 31, 32, 33, 34, 35, 36, 37, 38, 39, 40, 41, 42, 46, 47, 48, 49, 50, 51, 52, 53, 54, 55, 56, 57, 58, 59, 60, 61, 62] (by decide +kernel) (by decide +kernel)
set_option maxRecDepth 20000 in
theorem gX2_record_X5_copyFrom : GoodIn wsX2_record (wsV RX2 25 RX5 yX5_copyFrom wsX5_copyFrom) := goodIn_app (goodIn_of _ (by decide +kernel)) ggX2_record_X5_copyFrom
theorem dX2_record_0 : decode cX2_record 0 = .ok (.aload_n 0, 1) := by decide +kernel
theorem dX2_record_1 : decode cX2_record 1 = .ok (.getfield 21, 3) := by decide +kernel
theorem dX2_record_4 : decode cX2_record 4 = .ok (.iconst 4, 1) := by decide +kernel
theorem dX2_record_5 : decode cX2_record 5 = .ok (.if_icmp .ne 25, 3) := by decide +kernel
theorem dX2_record_8 : decode cX2_record 8 = .ok (.aload_n 0, 1) := by decide +kernel
theorem dX2_record_9 : decode cX2_record 9 = .ok (.aload_n 0, 1) := by decide +kernel
theorem dX2_record_10 : decode cX2_record 10 = .ok (.getfield 17, 3) := by decide +kernel
theorem dX2_record_13 : decode cX2_record 13 = .ok (.iconst 1, 1) := by decide +kernel
theorem dX2_record_14 : decode cX2_record 14 = .ok (.iadd, 1) := by decide +kernel
theorem dX2_record_15 : decode cX2_record 15 = .ok (.iconst 4, 1) := by decide +kernel
theorem dX2_record_16 : decode cX2_record 16 = .ok (.irem, 1) := by decide +kernel
theorem dX2_record_17 : decode cX2_record 17 = .ok (.putfield 17, 3) := by decide +kernel
theorem dX2_record_20 : decode cX2_record 20 = .ok (.aload_n 0, 1) := by decide +kernel
theorem dX2_record_21 : decode cX2_record 21 = .ok (.dup, 1) := by decide +kernel
theorem dX2_record_22 : decode cX2_record 22 = .ok (.getfield 21, 3) := by decide +kernel
theorem dX2_record_25 : decode cX2_record 25 = .ok (.iconst 1, 1) := by decide +kernel
theorem dX2_record_26 : decode cX2_record 26 = .ok (.isub, 1) := by decide +kernel
theorem dX2_record_27 : decode cX2_record 27 = .ok (.putfield 21, 3) := by decide +kernel
theorem dX2_record_30 : decode cX2_record 30 = .ok (.aload_n 0, 1) := by decide +kernel
theorem dX2_record_31 : decode cX2_record 31 = .ok (.getfield 11, 3) := by decide +kernel
theorem dX2_record_34 : decode cX2_record 34 = .ok (.aload_n 0, 1) := by decide +kernel
theorem dX2_record_35 : decode cX2_record 35 = .ok (.getfield 17, 3) := by decide +kernel
theorem dX2_record_38 : decode cX2_record 38 = .ok (.aload_n 0, 1) := by decide +kernel
theorem dX2_record_39 : decode cX2_record 39 = .ok (.getfield 21, 3) := by decide +kernel
theorem dX2_record_42 : decode cX2_record 42 = .ok (.iadd, 1) := by decide +kernel
theorem dX2_record_43 : decode cX2_record 43 = .ok (.iconst 4, 1) := by decide +kernel
theorem dX2_record_44 : decode cX2_record 44 = .ok (.irem, 1) := by decide +kernel
theorem dX2_record_45 : decode cX2_record 45 = .ok (.aaload, 1) := by decide +kernel
theorem dX2_record_46 : decode cX2_record 46 = .ok (.astore_n 2, 1) := by decide +kernel
theorem dX2_record_47 : decode cX2_record 47 = .ok (.aload_n 2, 1) := by decide +kernel
theorem dX2_record_48 : decode cX2_record 48 = .ok (.ifnull 18, 3) := by decide +kernel
theorem dX2_record_51 : decode cX2_record 51 = .ok (.aload_n 2, 1) := by decide +kernel
theorem dX2_record_52 : decode cX2_record 52 = .ok (.aload_n 1, 1) := by decide +kernel
theorem dX2_record_53 : decode cX2_record 53 = .ok (.invokevirtual 25, 3) := by decide +kernel
theorem dX2_record_56 : decode cX2_record 56 = .ok (.aload_n 0, 1) := by decide +kernel
theorem dX2_record_57 : decode cX2_record 57 = .ok (.dup, 1) := by decide +kernel
theorem dX2_record_58 : decode cX2_record 58 = .ok (.getfield 21, 3) := by decide +kernel
theorem dX2_record_61 : decode cX2_record 61 = .ok (.iconst 1, 1) := by decide +kernel
theorem dX2_record_62 : decode cX2_record 62 = .ok (.iadd, 1) := by decide +kernel
theorem dX2_record_63 : decode cX2_record 63 = .ok (.putfield 21, 3) := by decide +kernel
theorem dX2_record_66 : decode cX2_record 66 = .ok (.return_, 1) := by decide +kernel
set_option maxRecDepth 20000 in
theorem ggX2_takeLatest_X5_copyFrom : GoodIn wsX2_takeLatest wsX5_copyFrom := goodIn_r _ [8, 9, 10, 11, 12, 13, 14, 15, 16, 17, 18, 19, 20, 21, 22, 23, 24, 25, 26, 27, 28, 29, 30, 31, 32, 33, 34, 35, 36, 37, 38, 39, 40, 41, 42, 46, 47, 48, 49, 50, 51, 52, 53, 54, 55, 56, 57, 58, 59, 60, 61, 62] (by decide +kernel) (by decide +kernel)
set_option maxRecDepth 20000 in
theorem gX2_takeLatest_X5_copyFrom : GoodIn wsX2_takeLatest (wsV RX2 25 RX5 yX5_copyFrom wsX5_copyFrom) := goodIn_app (goodIn_of _ (by decide +kernel)) ggX2_takeLatest_X5_copyFrom
theorem dX2_takeLatest_0 : decode cX2_takeLatest 0 = .ok (.aload_n 0, 1) := by decide +kernel
theorem dX2_takeLatest_1 : decode cX2_takeLatest 1 = .ok (.getfield 21, 3) := by decide +kernel
theorem dX2_takeLatest_4 : decode cX2_takeLatest 4 = .ok (.ifCond .ne 4, 3) := by decide +kernel
theorem dX2_takeLatest_7 : decode cX2_takeLatest 7 = .ok (.return_, 1) := by decide +kernel
theorem dX2_takeLatest_8 : decode cX2_takeLatest 8 = .ok (.aload_n 0, 1) := by decide +kernel
theorem dX2_takeLatest_9 : decode cX2_takeLatest 9 = .ok (.dup, 1) := by decide +kernel
theorem dX2_takeLatest_10 : decode cX2_takeLatest 10 = .ok (.getfield 21, 3) := by decide +kernel
theorem dX2_takeLatest_13 : decode cX2_takeLatest 13 = .ok (.iconst 1, 1) := by decide +kernel
theorem dX2_takeLatest_14 : decode cX2_takeLatest 14 = .ok (.isub, 1) := by decide +kernel
theorem dX2_takeLatest_15 : decode cX2_takeLatest 15 = .ok (.putfield 21, 3) := by decide +kernel
theorem dX2_takeLatest_18 : decode cX2_takeLatest 18 = .ok (.aload_n 0, 1) := by decide +kernel
theorem dX2_takeLatest_19 : decode cX2_takeLatest 19 = .ok (.getfield 11, 3) := by decide +kernel
theorem dX2_takeLatest_22 : decode cX2_takeLatest 22 = .ok (.aload_n 0, 1) := by decide +kernel
theorem dX2_takeLatest_23 : decode cX2_takeLatest 23 = .ok (.getfield 17, 3) := by decide +kernel
theorem dX2_takeLatest_26 : decode cX2_takeLatest 26 = .ok (.aload_n 0, 1) := by decide +kernel
theorem dX2_takeLatest_27 : decode cX2_takeLatest 27 = .ok (.getfield 21, 3) := by decide +kernel
theorem dX2_takeLatest_30 : decode cX2_takeLatest 30 = .ok (.iadd, 1) := by decide +kernel
theorem dX2_takeLatest_31 : decode cX2_takeLatest 31 = .ok (.iconst 4, 1) := by decide +kernel
theorem dX2_takeLatest_32 : decode cX2_takeLatest 32 = .ok (.irem, 1) := by decide +kernel
theorem dX2_takeLatest_33 : decode cX2_takeLatest 33 = .ok (.aaload, 1) := by decide +kernel
theorem dX2_takeLatest_34 : decode cX2_takeLatest 34 = .ok (.astore_n 2, 1) := by decide +kernel
theorem dX2_takeLatest_35 : decode cX2_takeLatest 35 = .ok (.aload_n 2, 1) := by decide +kernel
theorem dX2_takeLatest_36 : decode cX2_takeLatest 36 = .ok (.ifnull 8, 3) := by decide +kernel
theorem dX2_takeLatest_39 : decode cX2_takeLatest 39 = .ok (.aload_n 1, 1) := by decide +kernel
theorem dX2_takeLatest_40 : decode cX2_takeLatest 40 = .ok (.aload_n 2, 1) := by decide +kernel
theorem dX2_takeLatest_41 : decode cX2_takeLatest 41 = .ok (.invokevirtual 25, 3) := by decide +kernel
theorem dX2_takeLatest_44 : decode cX2_takeLatest 44 = .ok (.return_, 1) := by decide +kernel
theorem dX3_init_0 : decode cX3_init 0 = .ok (.aload_n 0, 1) := by decide +kernel
theorem dX3_init_1 : decode cX3_init 1 = .ok (.invokespecial 3, 3) := by decide +kernel
theorem dX3_init_4 : decode cX3_init 4 = .ok (.aload_n 0, 1) := by decide +kernel
theorem dX3_init_5 : decode cX3_init 5 = .ok (.sipush 144, 3) := by decide +kernel
theorem dX3_init_8 : decode cX3_init 8 = .ok (.newarray .int, 2) := by decide +kernel
theorem dX3_init_10 : decode cX3_init 10 = .ok (.putfield 9, 3) := by decide +kernel
theorem dX3_init_13 : decode cX3_init 13 = .ok (.aload_n 0, 1) := by decide +kernel
theorem dX3_init_14 : decode cX3_init 14 = .ok (.sipush 144, 3) := by decide +kernel
theorem dX3_init_17 : decode cX3_init 17 = .ok (.newarray .int, 2) := by decide +kernel
theorem dX3_init_19 : decode cX3_init 19 = .ok (.putfield 15, 3) := by decide +kernel
theorem dX3_init_22 : decode cX3_init 22 = .ok (.aload_n 0, 1) := by decide +kernel
theorem dX3_init_23 : decode cX3_init 23 = .ok (.sipush 144, 3) := by decide +kernel
theorem dX3_init_26 : decode cX3_init 26 = .ok (.newarray .int, 2) := by decide +kernel
theorem dX3_init_28 : decode cX3_init 28 = .ok (.putfield 18, 3) := by decide +kernel
theorem dX3_init_31 : decode cX3_init 31 = .ok (.aload_n 0, 1) := by decide +kernel
theorem dX3_init_32 : decode cX3_init 32 = .ok (.aload_n 1, 1) := by decide +kernel
theorem dX3_init_33 : decode cX3_init 33 = .ok (.putfield 21, 3) := by decide +kernel
theorem dX3_init_36 : decode cX3_init 36 = .ok (.aload_n 0, 1) := by decide +kernel
theorem dX3_init_37 : decode cX3_init 37 = .ok (.aload_n 2, 1) := by decide +kernel
theorem dX3_init_38 : decode cX3_init 38 = .ok (.putfield 25, 3) := by decide +kernel
theorem dX3_init_41 : decode cX3_init 41 = .ok (.return_, 1) := by decide +kernel
set_option maxRecDepth 20000 in
theorem ggX3_stroke_X8_columnOf : GoodIn wsX3_stroke wsX8_columnOf := goodIn_r _ [6] (by decide +kernel) (by decide +kernel)
set_option maxRecDepth 20000 in
theorem gX3_stroke_X8_columnOf_n29 : GoodIn wsX3_stroke (wsX8_columnOf) := ggX3_stroke_X8_columnOf
set_option maxRecDepth 20000 in
theorem ggX3_stroke_X8_rowOf : GoodIn wsX3_stroke wsX8_rowOf := goodIn_r _ [8] (by decide +kernel) (by decide +kernel)
set_option maxRecDepth 20000 in
theorem gX3_stroke_X8_rowOf_n33 : GoodIn wsX3_stroke (wsX8_rowOf) := ggX3_stroke_X8_rowOf
set_option maxRecDepth 20000 in
theorem ggX3_stroke_X7_swingAt : GoodIn wsX3_stroke wsX7_swingAt := goodIn_r _ [13, 14, 15, 16, 17, 18, 19, 20, 21, 22, 5, 23, 24, 25, 55, 56, 57, 58, 59] (by decide +kernel) (by decide +kernel)
set_option maxRecDepth 20000 in
theorem gX3_stroke_X7_swingAt : GoodIn wsX3_stroke (wsV RX3 36 RX7 yX7_swingAt wsX7_swingAt) := goodIn_app (goodIn_of _ (by decide +kernel)) ggX3_stroke_X7_swingAt
set_option maxRecDepth 20000 in
theorem ggX3_stroke_X3_targetOf : GoodIn wsX3_stroke wsX3_targetOf := goodIn_r _ [30, 31, 5, 32, 33, 34, 35, 29, 36, 1, 24, 25, 50, 51, 52, 53, 54] (by decide +kernel) (by decide +kernel)
set_option maxRecDepth 20000 in
theorem gX3_stroke_X3_targetOf : GoodIn wsX3_stroke (wsV RX3 42 RX3 yX3_targetOf wsX3_targetOf) := goodIn_app (goodIn_of _ (by decide +kernel)) ggX3_stroke_X3_targetOf
set_option maxRecDepth 20000 in
theorem ggX3_stroke_X3_strokeOnce : GoodIn wsX3_stroke wsX3_strokeOnce := goodIn_r _ [40, 41, 1, 42, 43, 44, 45, 29, 46, 3, 47, 48, 49, 4, 5, 6, 7, 8, 50, 51, 52, 53, 54, 60, 61, 62, 63, 64, 65, 66, 67, 68, 69, 70, 71] (by decide +kernel) (by decide +kernel)
set_option maxRecDepth 20000 in
theorem gX3_stroke_X3_strokeOnce : GoodIn wsX3_stroke (wsV RX3 46 RX3 yX3_strokeOnce wsX3_strokeOnce) := goodIn_app (goodIn_of _ (by decide +kernel)) ggX3_stroke_X3_strokeOnce
theorem dX3_stroke_0 : decode cX3_stroke 0 = .ok (.iconst 0, 1) := by decide +kernel
theorem dX3_stroke_1 : decode cX3_stroke 1 = .ok (.istore_n 3, 1) := by decide +kernel
theorem dX3_stroke_2 : decode cX3_stroke 2 = .ok (.iload_n 3, 1) := by decide +kernel
theorem dX3_stroke_3 : decode cX3_stroke 3 = .ok (.sipush 144, 3) := by decide +kernel
theorem dX3_stroke_6 : decode cX3_stroke 6 = .ok (.if_icmp .ge 31, 3) := by decide +kernel
theorem dX3_stroke_9 : decode cX3_stroke 9 = .ok (.aload_n 0, 1) := by decide +kernel
theorem dX3_stroke_10 : decode cX3_stroke 10 = .ok (.getfield 9, 3) := by decide +kernel
theorem dX3_stroke_13 : decode cX3_stroke 13 = .ok (.iload_n 3, 1) := by decide +kernel
theorem dX3_stroke_14 : decode cX3_stroke 14 = .ok (.aload_n 0, 1) := by decide +kernel
theorem dX3_stroke_15 : decode cX3_stroke 15 = .ok (.getfield 21, 3) := by decide +kernel
theorem dX3_stroke_18 : decode cX3_stroke 18 = .ok (.iload_n 1, 1) := by decide +kernel
theorem dX3_stroke_19 : decode cX3_stroke 19 = .ok (.iload_n 3, 1) := by decide +kernel
theorem dX3_stroke_20 : decode cX3_stroke 20 = .ok (.invokestatic 29, 3) := by decide +kernel
theorem dX3_stroke_23 : decode cX3_stroke 23 = .ok (.iload_n 3, 1) := by decide +kernel
theorem dX3_stroke_24 : decode cX3_stroke 24 = .ok (.invokestatic 33, 3) := by decide +kernel
theorem dX3_stroke_27 : decode cX3_stroke 27 = .ok (.invokevirtual 36, 3) := by decide +kernel
theorem dX3_stroke_30 : decode cX3_stroke 30 = .ok (.iastore, 1) := by decide +kernel
theorem dX3_stroke_31 : decode cX3_stroke 31 = .ok (.iinc 3 1, 3) := by decide +kernel
theorem dX3_stroke_34 : decode cX3_stroke 34 = .ok (.goto (-32), 3) := by decide +kernel
theorem dX3_stroke_37 : decode cX3_stroke 37 = .ok (.iconst 0, 1) := by decide +kernel
theorem dX3_stroke_38 : decode cX3_stroke 38 = .ok (.istore_n 3, 1) := by decide +kernel
theorem dX3_stroke_39 : decode cX3_stroke 39 = .ok (.iload_n 3, 1) := by decide +kernel
theorem dX3_stroke_40 : decode cX3_stroke 40 = .ok (.sipush 144, 3) := by decide +kernel
theorem dX3_stroke_43 : decode cX3_stroke 43 = .ok (.if_icmp .ge 27, 3) := by decide +kernel
theorem dX3_stroke_46 : decode cX3_stroke 46 = .ok (.aload_n 0, 1) := by decide +kernel
theorem dX3_stroke_47 : decode cX3_stroke 47 = .ok (.getfield 15, 3) := by decide +kernel
theorem dX3_stroke_50 : decode cX3_stroke 50 = .ok (.iload_n 3, 1) := by decide +kernel
theorem dX3_stroke_51 : decode cX3_stroke 51 = .ok (.aload_n 0, 1) := by decide +kernel
theorem dX3_stroke_52 : decode cX3_stroke 52 = .ok (.iload_n 3, 1) := by decide +kernel
theorem dX3_stroke_53 : decode cX3_stroke 53 = .ok (.invokestatic 29, 3) := by decide +kernel
theorem dX3_stroke_56 : decode cX3_stroke 56 = .ok (.iload_n 3, 1) := by decide +kernel
theorem dX3_stroke_57 : decode cX3_stroke 57 = .ok (.invokestatic 33, 3) := by decide +kernel
theorem dX3_stroke_60 : decode cX3_stroke 60 = .ok (.invokevirtual 42, 3) := by decide +kernel
theorem dX3_stroke_63 : decode cX3_stroke 63 = .ok (.iastore, 1) := by decide +kernel
theorem dX3_stroke_64 : decode cX3_stroke 64 = .ok (.iinc 3 1, 3) := by decide +kernel
theorem dX3_stroke_67 : decode cX3_stroke 67 = .ok (.goto (-28), 3) := by decide +kernel
theorem dX3_stroke_70 : decode cX3_stroke 70 = .ok (.iconst 0, 1) := by decide +kernel
theorem dX3_stroke_71 : decode cX3_stroke 71 = .ok (.istore_n 3, 1) := by decide +kernel
theorem dX3_stroke_72 : decode cX3_stroke 72 = .ok (.iload_n 3, 1) := by decide +kernel
theorem dX3_stroke_73 : decode cX3_stroke 73 = .ok (.iload_n 2, 1) := by decide +kernel
theorem dX3_stroke_74 : decode cX3_stroke 74 = .ok (.if_icmp .ge 19, 3) := by decide +kernel
theorem dX3_stroke_77 : decode cX3_stroke 77 = .ok (.iload_n 3, 1) := by decide +kernel
theorem dX3_stroke_78 : decode cX3_stroke 78 = .ok (.bipush 20, 2) := by decide +kernel
theorem dX3_stroke_80 : decode cX3_stroke 80 = .ok (.if_icmp .ge 13, 3) := by decide +kernel
theorem dX3_stroke_83 : decode cX3_stroke 83 = .ok (.aload_n 0, 1) := by decide +kernel
theorem dX3_stroke_84 : decode cX3_stroke 84 = .ok (.invokevirtual 46, 3) := by decide +kernel
theorem dX3_stroke_87 : decode cX3_stroke 87 = .ok (.iinc 3 1, 3) := by decide +kernel
theorem dX3_stroke_90 : decode cX3_stroke 90 = .ok (.goto (-18), 3) := by decide +kernel
theorem dX3_stroke_93 : decode cX3_stroke 93 = .ok (.return_, 1) := by decide +kernel
set_option maxRecDepth 20000 in
theorem ggX3_targetOf_X8_placeOf : GoodIn wsX3_targetOf wsX8_placeOf := goodIn_r _ [3] (by decide +kernel) (by decide +kernel)
set_option maxRecDepth 20000 in
theorem gX3_targetOf_X8_placeOf_n49 : GoodIn wsX3_targetOf (wsX8_placeOf) := ggX3_targetOf_X8_placeOf
set_option maxRecDepth 20000 in
theorem ggX3_targetOf_X3_calmerOf : GoodIn wsX3_targetOf wsX3_calmerOf := goodIn_r _ [8, 9, 10, 2, 11, 1, 3, 12, 13, 14, 15, 16] (by decide +kernel) (by decide +kernel)
set_option maxRecDepth 20000 in
theorem gX3_targetOf_X3_calmerOf : GoodIn wsX3_targetOf (wsV RX3 52 RX3 yX3_calmerOf wsX3_calmerOf) := goodIn_app (goodIn_of _ (by decide +kernel)) ggX3_targetOf_X3_calmerOf
theorem dX3_targetOf_0 : decode cX3_targetOf 0 = .ok (.iload_n 1, 1) := by decide +kernel
theorem dX3_targetOf_1 : decode cX3_targetOf 1 = .ok (.iload_n 2, 1) := by decide +kernel
theorem dX3_targetOf_2 : decode cX3_targetOf 2 = .ok (.invokestatic 49, 3) := by decide +kernel
theorem dX3_targetOf_5 : decode cX3_targetOf 5 = .ok (.istore_n 3, 1) := by decide +kernel
theorem dX3_targetOf_6 : decode cX3_targetOf 6 = .ok (.aload_n 0, 1) := by decide +kernel
theorem dX3_targetOf_7 : decode cX3_targetOf 7 = .ok (.iload_n 3, 1) := by decide +kernel
theorem dX3_targetOf_8 : decode cX3_targetOf 8 = .ok (.iload_n 1, 1) := by decide +kernel
theorem dX3_targetOf_9 : decode cX3_targetOf 9 = .ok (.iload_n 2, 1) := by decide +kernel
theorem dX3_targetOf_10 : decode cX3_targetOf 10 = .ok (.iconst 1, 1) := by decide +kernel
theorem dX3_targetOf_11 : decode cX3_targetOf 11 = .ok (.isub, 1) := by decide +kernel
theorem dX3_targetOf_12 : decode cX3_targetOf 12 = .ok (.invokevirtual 52, 3) := by decide +kernel
theorem dX3_targetOf_15 : decode cX3_targetOf 15 = .ok (.istore_n 3, 1) := by decide +kernel
theorem dX3_targetOf_16 : decode cX3_targetOf 16 = .ok (.aload_n 0, 1) := by decide +kernel
theorem dX3_targetOf_17 : decode cX3_targetOf 17 = .ok (.iload_n 3, 1) := by decide +kernel
theorem dX3_targetOf_18 : decode cX3_targetOf 18 = .ok (.iload_n 1, 1) := by decide +kernel
theorem dX3_targetOf_19 : decode cX3_targetOf 19 = .ok (.iconst 1, 1) := by decide +kernel
theorem dX3_targetOf_20 : decode cX3_targetOf 20 = .ok (.isub, 1) := by decide +kernel
theorem dX3_targetOf_21 : decode cX3_targetOf 21 = .ok (.iload_n 2, 1) := by decide +kernel
theorem dX3_targetOf_22 : decode cX3_targetOf 22 = .ok (.invokevirtual 52, 3) := by decide +kernel
theorem dX3_targetOf_25 : decode cX3_targetOf 25 = .ok (.istore_n 3, 1) := by decide +kernel
theorem dX3_targetOf_26 : decode cX3_targetOf 26 = .ok (.aload_n 0, 1) := by decide +kernel
theorem dX3_targetOf_27 : decode cX3_targetOf 27 = .ok (.iload_n 3, 1) := by decide +kernel
theorem dX3_targetOf_28 : decode cX3_targetOf 28 = .ok (.iload_n 1, 1) := by decide +kernel
theorem dX3_targetOf_29 : decode cX3_targetOf 29 = .ok (.iconst 1, 1) := by decide +kernel
theorem dX3_targetOf_30 : decode cX3_targetOf 30 = .ok (.iadd, 1) := by decide +kernel
theorem dX3_targetOf_31 : decode cX3_targetOf 31 = .ok (.iload_n 2, 1) := by decide +kernel
theorem dX3_targetOf_32 : decode cX3_targetOf 32 = .ok (.invokevirtual 52, 3) := by decide +kernel
theorem dX3_targetOf_35 : decode cX3_targetOf 35 = .ok (.istore_n 3, 1) := by decide +kernel
theorem dX3_targetOf_36 : decode cX3_targetOf 36 = .ok (.aload_n 0, 1) := by decide +kernel
theorem dX3_targetOf_37 : decode cX3_targetOf 37 = .ok (.iload_n 3, 1) := by decide +kernel
theorem dX3_targetOf_38 : decode cX3_targetOf 38 = .ok (.iload_n 1, 1) := by decide +kernel
theorem dX3_targetOf_39 : decode cX3_targetOf 39 = .ok (.iload_n 2, 1) := by decide +kernel
theorem dX3_targetOf_40 : decode cX3_targetOf 40 = .ok (.iconst 1, 1) := by decide +kernel
theorem dX3_targetOf_41 : decode cX3_targetOf 41 = .ok (.iadd, 1) := by decide +kernel
theorem dX3_targetOf_42 : decode cX3_targetOf 42 = .ok (.invokevirtual 52, 3) := by decide +kernel
theorem dX3_targetOf_45 : decode cX3_targetOf 45 = .ok (.ireturn, 1) := by decide +kernel
set_option maxRecDepth 20000 in
theorem ggX3_calmerOf_X8_isPlace : GoodIn wsX3_calmerOf wsX8_isPlace := goodIn_r _ [4] (by decide +kernel) (by decide +kernel)
set_option maxRecDepth 20000 in
theorem gX3_calmerOf_X8_isPlace_n55 : GoodIn wsX3_calmerOf (wsX8_isPlace) := ggX3_calmerOf_X8_isPlace
set_option maxRecDepth 20000 in
theorem ggX3_calmerOf_X8_placeOf : GoodIn wsX3_calmerOf wsX8_placeOf := goodIn_r _ [6] (by decide +kernel) (by decide +kernel)
set_option maxRecDepth 20000 in
theorem gX3_calmerOf_X8_placeOf_n49 : GoodIn wsX3_calmerOf (wsX8_placeOf) := ggX3_calmerOf_X8_placeOf
theorem dX3_calmerOf_0 : decode cX3_calmerOf 0 = .ok (.iload_n 2, 1) := by decide +kernel
theorem dX3_calmerOf_1 : decode cX3_calmerOf 1 = .ok (.iload_n 3, 1) := by decide +kernel
theorem dX3_calmerOf_2 : decode cX3_calmerOf 2 = .ok (.invokestatic 55, 3) := by decide +kernel
theorem dX3_calmerOf_5 : decode cX3_calmerOf 5 = .ok (.ifCond .eq 28, 3) := by decide +kernel
theorem dX3_calmerOf_8 : decode cX3_calmerOf 8 = .ok (.aload_n 0, 1) := by decide +kernel
theorem dX3_calmerOf_9 : decode cX3_calmerOf 9 = .ok (.getfield 9, 3) := by decide +kernel
theorem dX3_calmerOf_12 : decode cX3_calmerOf 12 = .ok (.iload_n 2, 1) := by decide +kernel
theorem dX3_calmerOf_13 : decode cX3_calmerOf 13 = .ok (.iload_n 3, 1) := by decide +kernel
theorem dX3_calmerOf_14 : decode cX3_calmerOf 14 = .ok (.invokestatic 49, 3) := by decide +kernel
theorem dX3_calmerOf_17 : decode cX3_calmerOf 17 = .ok (.iaload, 1) := by decide +kernel
theorem dX3_calmerOf_18 : decode cX3_calmerOf 18 = .ok (.aload_n 0, 1) := by decide +kernel
theorem dX3_calmerOf_19 : decode cX3_calmerOf 19 = .ok (.getfield 9, 3) := by decide +kernel
theorem dX3_calmerOf_22 : decode cX3_calmerOf 22 = .ok (.iload_n 1, 1) := by decide +kernel
theorem dX3_calmerOf_23 : decode cX3_calmerOf 23 = .ok (.iaload, 1) := by decide +kernel
theorem dX3_calmerOf_24 : decode cX3_calmerOf 24 = .ok (.if_icmp .ge 9, 3) := by decide +kernel
theorem dX3_calmerOf_27 : decode cX3_calmerOf 27 = .ok (.iload_n 2, 1) := by decide +kernel
theorem dX3_calmerOf_28 : decode cX3_calmerOf 28 = .ok (.iload_n 3, 1) := by decide +kernel
theorem dX3_calmerOf_29 : decode cX3_calmerOf 29 = .ok (.invokestatic 49, 3) := by decide +kernel
theorem dX3_calmerOf_32 : decode cX3_calmerOf 32 = .ok (.ireturn, 1) := by decide +kernel
theorem dX3_calmerOf_33 : decode cX3_calmerOf 33 = .ok (.iload_n 1, 1) := by decide +kernel
theorem dX3_calmerOf_34 : decode cX3_calmerOf 34 = .ok (.ireturn, 1) := by decide +kernel
set_option maxRecDepth 20000 in
theorem ggX3_strokeOnce_X3_shake : GoodIn wsX3_strokeOnce wsX3_shake := goodIn_r _ [8, 3, 2, 1, 9, 10, 11, 7, 12, 13, 14, 15, 16, 17, 18, 19, 20, 21, 22, 23, 24, 25, 26, 27, 28, 29, 30, 31, 32, 33, 34] (by decide +kernel) (by decide +kernel)
set_option maxRecDepth 20000 in
theorem gX3_strokeOnce_X3_shake : GoodIn wsX3_strokeOnce (wsV RX3 67 RX3 yX3_shake wsX3_shake) := goodIn_app (goodIn_of _ (by decide +kernel)) ggX3_strokeOnce_X3_shake
theorem dX3_strokeOnce_0 : decode cX3_strokeOnce 0 = .ok (.iconst 0, 1) := by decide +kernel
theorem dX3_strokeOnce_1 : decode cX3_strokeOnce 1 = .ok (.istore_n 1, 1) := by decide +kernel
theorem dX3_strokeOnce_2 : decode cX3_strokeOnce 2 = .ok (.iload_n 1, 1) := by decide +kernel
theorem dX3_strokeOnce_3 : decode cX3_strokeOnce 3 = .ok (.sipush 144, 3) := by decide +kernel
theorem dX3_strokeOnce_6 : decode cX3_strokeOnce 6 = .ok (.if_icmp .ge 16, 3) := by decide +kernel
theorem dX3_strokeOnce_9 : decode cX3_strokeOnce 9 = .ok (.aload_n 0, 1) := by decide +kernel
theorem dX3_strokeOnce_10 : decode cX3_strokeOnce 10 = .ok (.getfield 18, 3) := by decide +kernel
theorem dX3_strokeOnce_13 : decode cX3_strokeOnce 13 = .ok (.iload_n 1, 1) := by decide +kernel
theorem dX3_strokeOnce_14 : decode cX3_strokeOnce 14 = .ok (.iconst 0, 1) := by decide +kernel
theorem dX3_strokeOnce_15 : decode cX3_strokeOnce 15 = .ok (.iastore, 1) := by decide +kernel
theorem dX3_strokeOnce_16 : decode cX3_strokeOnce 16 = .ok (.iinc 1 1, 3) := by decide +kernel
theorem dX3_strokeOnce_19 : decode cX3_strokeOnce 19 = .ok (.goto (-17), 3) := by decide +kernel
theorem dX3_strokeOnce_22 : decode cX3_strokeOnce 22 = .ok (.iconst 0, 1) := by decide +kernel
theorem dX3_strokeOnce_23 : decode cX3_strokeOnce 23 = .ok (.istore_n 1, 1) := by decide +kernel
theorem dX3_strokeOnce_24 : decode cX3_strokeOnce 24 = .ok (.iload_n 1, 1) := by decide +kernel
theorem dX3_strokeOnce_25 : decode cX3_strokeOnce 25 = .ok (.sipush 144, 3) := by decide +kernel
theorem dX3_strokeOnce_28 : decode cX3_strokeOnce 28 = .ok (.if_icmp .ge 44, 3) := by decide +kernel
theorem dX3_strokeOnce_31 : decode cX3_strokeOnce 31 = .ok (.aload_n 0, 1) := by decide +kernel
theorem dX3_strokeOnce_32 : decode cX3_strokeOnce 32 = .ok (.getfield 9, 3) := by decide +kernel
theorem dX3_strokeOnce_35 : decode cX3_strokeOnce 35 = .ok (.iload_n 1, 1) := by decide +kernel
theorem dX3_strokeOnce_36 : decode cX3_strokeOnce 36 = .ok (.iaload, 1) := by decide +kernel
theorem dX3_strokeOnce_37 : decode cX3_strokeOnce 37 = .ok (.aload_n 0, 1) := by decide +kernel
theorem dX3_strokeOnce_38 : decode cX3_strokeOnce 38 = .ok (.getfield 25, 3) := by decide +kernel
theorem dX3_strokeOnce_41 : decode cX3_strokeOnce 41 = .ok (.getfield 59, 3) := by decide +kernel
theorem dX3_strokeOnce_44 : decode cX3_strokeOnce 44 = .ok (.iconst 2, 1) := by decide +kernel
theorem dX3_strokeOnce_45 : decode cX3_strokeOnce 45 = .ok (.iaload, 1) := by decide +kernel
theorem dX3_strokeOnce_46 : decode cX3_strokeOnce 46 = .ok (.if_icmp .le 20, 3) := by decide +kernel
theorem dX3_strokeOnce_49 : decode cX3_strokeOnce 49 = .ok (.aload_n 0, 1) := by decide +kernel
theorem dX3_strokeOnce_50 : decode cX3_strokeOnce 50 = .ok (.getfield 25, 3) := by decide +kernel
theorem dX3_strokeOnce_53 : decode cX3_strokeOnce 53 = .ok (.getfield 64, 3) := by decide +kernel
theorem dX3_strokeOnce_56 : decode cX3_strokeOnce 56 = .ok (.iload_n 1, 1) := by decide +kernel
theorem dX3_strokeOnce_57 : decode cX3_strokeOnce 57 = .ok (.iaload, 1) := by decide +kernel
theorem dX3_strokeOnce_58 : decode cX3_strokeOnce 58 = .ok (.ifCond .le 8, 3) := by decide +kernel
theorem dX3_strokeOnce_61 : decode cX3_strokeOnce 61 = .ok (.aload_n 0, 1) := by decide +kernel
theorem dX3_strokeOnce_62 : decode cX3_strokeOnce 62 = .ok (.iload_n 1, 1) := by decide +kernel
theorem dX3_strokeOnce_63 : decode cX3_strokeOnce 63 = .ok (.invokevirtual 67, 3) := by decide +kernel
theorem dX3_strokeOnce_66 : decode cX3_strokeOnce 66 = .ok (.iinc 1 1, 3) := by decide +kernel
theorem dX3_strokeOnce_69 : decode cX3_strokeOnce 69 = .ok (.goto (-45), 3) := by decide +kernel
theorem dX3_strokeOnce_72 : decode cX3_strokeOnce 72 = .ok (.iconst 0, 1) := by decide +kernel
theorem dX3_strokeOnce_73 : decode cX3_strokeOnce 73 = .ok (.istore_n 1, 1) := by decide +kernel
theorem dX3_strokeOnce_74 : decode cX3_strokeOnce 74 = .ok (.iload_n 1, 1) := by decide +kernel
theorem dX3_strokeOnce_75 : decode cX3_strokeOnce 75 = .ok (.sipush 144, 3) := by decide +kernel
theorem dX3_strokeOnce_78 : decode cX3_strokeOnce 78 = .ok (.if_icmp .ge 27, 3) := by decide +kernel
theorem dX3_strokeOnce_81 : decode cX3_strokeOnce 81 = .ok (.aload_n 0, 1) := by decide +kernel
theorem dX3_strokeOnce_82 : decode cX3_strokeOnce 82 = .ok (.getfield 25, 3) := by decide +kernel
theorem dX3_strokeOnce_85 : decode cX3_strokeOnce 85 = .ok (.getfield 64, 3) := by decide +kernel
theorem dX3_strokeOnce_88 : decode cX3_strokeOnce 88 = .ok (.iload_n 1, 1) := by decide +kernel
theorem dX3_strokeOnce_89 : decode cX3_strokeOnce 89 = .ok (.dup2, 1) := by decide +kernel
theorem dX3_strokeOnce_90 : decode cX3_strokeOnce 90 = .ok (.iaload, 1) := by decide +kernel
theorem dX3_strokeOnce_91 : decode cX3_strokeOnce 91 = .ok (.aload_n 0, 1) := by decide +kernel
theorem dX3_strokeOnce_92 : decode cX3_strokeOnce 92 = .ok (.getfield 18, 3) := by decide +kernel
theorem dX3_strokeOnce_95 : decode cX3_strokeOnce 95 = .ok (.iload_n 1, 1) := by decide +kernel
theorem dX3_strokeOnce_96 : decode cX3_strokeOnce 96 = .ok (.iaload, 1) := by decide +kernel
theorem dX3_strokeOnce_97 : decode cX3_strokeOnce 97 = .ok (.iadd, 1) := by decide +kernel
theorem dX3_strokeOnce_98 : decode cX3_strokeOnce 98 = .ok (.iastore, 1) := by decide +kernel
theorem dX3_strokeOnce_99 : decode cX3_strokeOnce 99 = .ok (.iinc 1 1, 3) := by decide +kernel
theorem dX3_strokeOnce_102 : decode cX3_strokeOnce 102 = .ok (.goto (-28), 3) := by decide +kernel
theorem dX3_strokeOnce_105 : decode cX3_strokeOnce 105 = .ok (.return_, 1) := by decide +kernel
set_option maxRecDepth 20000 in
theorem ggX3_shake_X3_isAtEdge : GoodIn wsX3_shake wsX3_isAtEdge := goodIn_r _ [8, 9, 10, 11, 12, 13] (by decide +kernel) (by decide +kernel)
set_option maxRecDepth 20000 in
theorem gX3_shake_X3_isAtEdge : GoodIn wsX3_shake (va_wsS RX3 71 yX3_isAtEdge wsX3_isAtEdge) := goodIn_app (goodIn_of _ (by decide +kernel)) ggX3_shake_X3_isAtEdge
theorem dX3_shake_0 : decode cX3_shake 0 = .ok (.aload_n 0, 1) := by decide +kernel
theorem dX3_shake_1 : decode cX3_shake 1 = .ok (.getfield 25, 3) := by decide +kernel
theorem dX3_shake_4 : decode cX3_shake 4 = .ok (.getfield 64, 3) := by decide +kernel
theorem dX3_shake_7 : decode cX3_shake 7 = .ok (.iload_n 1, 1) := by decide +kernel
theorem dX3_shake_8 : decode cX3_shake 8 = .ok (.iaload, 1) := by decide +kernel
theorem dX3_shake_9 : decode cX3_shake 9 = .ok (.iconst 1, 1) := by decide +kernel
theorem dX3_shake_10 : decode cX3_shake 10 = .ok (.iadd, 1) := by decide +kernel
theorem dX3_shake_11 : decode cX3_shake 11 = .ok (.iconst 2, 1) := by decide +kernel
theorem dX3_shake_12 : decode cX3_shake 12 = .ok (.idiv, 1) := by decide +kernel
theorem dX3_shake_13 : decode cX3_shake 13 = .ok (.istore_n 2, 1) := by decide +kernel
theorem dX3_shake_14 : decode cX3_shake 14 = .ok (.aload_n 0, 1) := by decide +kernel
theorem dX3_shake_15 : decode cX3_shake 15 = .ok (.getfield 25, 3) := by decide +kernel
theorem dX3_shake_18 : decode cX3_shake 18 = .ok (.getfield 64, 3) := by decide +kernel
theorem dX3_shake_21 : decode cX3_shake 21 = .ok (.iload_n 1, 1) := by decide +kernel
theorem dX3_shake_22 : decode cX3_shake 22 = .ok (.dup2, 1) := by decide +kernel
theorem dX3_shake_23 : decode cX3_shake 23 = .ok (.iaload, 1) := by decide +kernel
theorem dX3_shake_24 : decode cX3_shake 24 = .ok (.iload_n 2, 1) := by decide +kernel
theorem dX3_shake_25 : decode cX3_shake 25 = .ok (.isub, 1) := by decide +kernel
theorem dX3_shake_26 : decode cX3_shake 26 = .ok (.iastore, 1) := by decide +kernel
theorem dX3_shake_27 : decode cX3_shake 27 = .ok (.iload_n 1, 1) := by decide +kernel
theorem dX3_shake_28 : decode cX3_shake 28 = .ok (.invokestatic 71, 3) := by decide +kernel
theorem dX3_shake_31 : decode cX3_shake 31 = .ok (.ifCond .eq 37, 3) := by decide +kernel
theorem dX3_shake_34 : decode cX3_shake 34 = .ok (.aload_n 0, 1) := by decide +kernel
theorem dX3_shake_35 : decode cX3_shake 35 = .ok (.getfield 9, 3) := by decide +kernel
theorem dX3_shake_38 : decode cX3_shake 38 = .ok (.iload_n 1, 1) := by decide +kernel
theorem dX3_shake_39 : decode cX3_shake 39 = .ok (.iaload, 1) := by decide +kernel
theorem dX3_shake_40 : decode cX3_shake 40 = .ok (.aload_n 0, 1) := by decide +kernel
theorem dX3_shake_41 : decode cX3_shake 41 = .ok (.getfield 25, 3) := by decide +kernel
theorem dX3_shake_44 : decode cX3_shake 44 = .ok (.getfield 59, 3) := by decide +kernel
theorem dX3_shake_47 : decode cX3_shake 47 = .ok (.iconst 3, 1) := by decide +kernel
theorem dX3_shake_48 : decode cX3_shake 48 = .ok (.iaload, 1) := by decide +kernel
theorem dX3_shake_49 : decode cX3_shake 49 = .ok (.if_icmp .lt 19, 3) := by decide +kernel
theorem dX3_shake_52 : decode cX3_shake 52 = .ok (.iinc 2 (-1), 3) := by decide +kernel
theorem dX3_shake_55 : decode cX3_shake 55 = .ok (.aload_n 0, 1) := by decide +kernel
theorem dX3_shake_56 : decode cX3_shake 56 = .ok (.getfield 25, 3) := by decide +kernel
theorem dX3_shake_59 : decode cX3_shake 59 = .ok (.dup, 1) := by decide +kernel
theorem dX3_shake_60 : decode cX3_shake 60 = .ok (.getfield 75, 3) := by decide +kernel
theorem dX3_shake_63 : decode cX3_shake 63 = .ok (.iconst 1, 1) := by decide +kernel
theorem dX3_shake_64 : decode cX3_shake 64 = .ok (.iadd, 1) := by decide +kernel
theorem dX3_shake_65 : decode cX3_shake 65 = .ok (.putfield 75, 3) := by decide +kernel
theorem dX3_shake_68 : decode cX3_shake 68 = .ok (.aload_n 0, 1) := by decide +kernel
theorem dX3_shake_69 : decode cX3_shake 69 = .ok (.getfield 18, 3) := by decide +kernel
theorem dX3_shake_72 : decode cX3_shake 72 = .ok (.aload_n 0, 1) := by decide +kernel
theorem dX3_shake_73 : decode cX3_shake 73 = .ok (.getfield 15, 3) := by decide +kernel
theorem dX3_shake_76 : decode cX3_shake 76 = .ok (.iload_n 1, 1) := by decide +kernel
theorem dX3_shake_77 : decode cX3_shake 77 = .ok (.iaload, 1) := by decide +kernel
theorem dX3_shake_78 : decode cX3_shake 78 = .ok (.dup2, 1) := by decide +kernel
theorem dX3_shake_79 : decode cX3_shake 79 = .ok (.iaload, 1) := by decide +kernel
theorem dX3_shake_80 : decode cX3_shake 80 = .ok (.iload_n 2, 1) := by decide +kernel
theorem dX3_shake_81 : decode cX3_shake 81 = .ok (.iadd, 1) := by decide +kernel
theorem dX3_shake_82 : decode cX3_shake 82 = .ok (.iastore, 1) := by decide +kernel
theorem dX3_shake_83 : decode cX3_shake 83 = .ok (.return_, 1) := by decide +kernel
set_option maxRecDepth 20000 in
theorem ggX3_isAtEdge_X8_columnOf : GoodIn wsX3_isAtEdge wsX8_columnOf := goodIn_r _ [3] (by decide +kernel) (by decide +kernel)
set_option maxRecDepth 20000 in
theorem gX3_isAtEdge_X8_columnOf_n29 : GoodIn wsX3_isAtEdge (wsX8_columnOf) := ggX3_isAtEdge_X8_columnOf
set_option maxRecDepth 20000 in
theorem ggX3_isAtEdge_X8_rowOf : GoodIn wsX3_isAtEdge wsX8_rowOf := goodIn_r _ [5] (by decide +kernel) (by decide +kernel)
set_option maxRecDepth 20000 in
theorem gX3_isAtEdge_X8_rowOf_n33 : GoodIn wsX3_isAtEdge (wsX8_rowOf) := ggX3_isAtEdge_X8_rowOf
theorem dX3_isAtEdge_0 : decode cX3_isAtEdge 0 = .ok (.iload_n 0, 1) := by decide +kernel
theorem dX3_isAtEdge_1 : decode cX3_isAtEdge 1 = .ok (.invokestatic 29, 3) := by decide +kernel
theorem dX3_isAtEdge_4 : decode cX3_isAtEdge 4 = .ok (.istore_n 1, 1) := by decide +kernel
theorem dX3_isAtEdge_5 : decode cX3_isAtEdge 5 = .ok (.iload_n 0, 1) := by decide +kernel
theorem dX3_isAtEdge_6 : decode cX3_isAtEdge 6 = .ok (.invokestatic 33, 3) := by decide +kernel
theorem dX3_isAtEdge_9 : decode cX3_isAtEdge 9 = .ok (.istore_n 2, 1) := by decide +kernel
theorem dX3_isAtEdge_10 : decode cX3_isAtEdge 10 = .ok (.iload_n 1, 1) := by decide +kernel
theorem dX3_isAtEdge_11 : decode cX3_isAtEdge 11 = .ok (.ifCond .eq 19, 3) := by decide +kernel
theorem dX3_isAtEdge_14 : decode cX3_isAtEdge 14 = .ok (.iload_n 2, 1) := by decide +kernel
theorem dX3_isAtEdge_15 : decode cX3_isAtEdge 15 = .ok (.ifCond .eq 15, 3) := by decide +kernel
theorem dX3_isAtEdge_18 : decode cX3_isAtEdge 18 = .ok (.iload_n 1, 1) := by decide +kernel
theorem dX3_isAtEdge_19 : decode cX3_isAtEdge 19 = .ok (.bipush 11, 2) := by decide +kernel
theorem dX3_isAtEdge_21 : decode cX3_isAtEdge 21 = .ok (.if_icmp .eq 9, 3) := by decide +kernel
theorem dX3_isAtEdge_24 : decode cX3_isAtEdge 24 = .ok (.iload_n 2, 1) := by decide +kernel
theorem dX3_isAtEdge_25 : decode cX3_isAtEdge 25 = .ok (.bipush 11, 2) := by decide +kernel
theorem dX3_isAtEdge_27 : decode cX3_isAtEdge 27 = .ok (.if_icmp .ne 7, 3) := by decide +kernel
theorem dX3_isAtEdge_30 : decode cX3_isAtEdge 30 = .ok (.iconst 1, 1) := by decide +kernel
theorem dX3_isAtEdge_31 : decode cX3_isAtEdge 31 = .ok (.goto 4, 3) := by decide +kernel
theorem dX3_isAtEdge_34 : decode cX3_isAtEdge 34 = .ok (.iconst 0, 1) := by decide +kernel
theorem dX3_isAtEdge_35 : decode cX3_isAtEdge 35 = .ok (.ireturn, 1) := by decide +kernel
end
section
theorem dX4_init_0 : decode cX4_init 0 = .ok (.aload_n 0, 1) := by decide +kernel
theorem dX4_init_1 : decode cX4_init 1 = .ok (.invokespecial 1, 3) := by decide +kernel
theorem dX4_init_4 : decode cX4_init 4 = .ok (.aload_n 0, 1) := by decide +kernel
theorem dX4_init_5 : decode cX4_init 5 = .ok (.iconst 0, 1) := by decide +kernel
theorem dX4_init_6 : decode cX4_init 6 = .ok (.putfield 7, 3) := by decide +kernel
theorem dX4_init_9 : decode cX4_init 9 = .ok (.aload_n 0, 1) := by decide +kernel
theorem dX4_init_10 : decode cX4_init 10 = .ok (.iload_n 1, 1) := by decide +kernel
theorem dX4_init_11 : decode cX4_init 11 = .ok (.iconst 0, 1) := by decide +kernel
theorem dX4_init_12 : decode cX4_init 12 = .ok (.invokestatic 13, 3) := by decide +kernel
theorem dX4_init_15 : decode cX4_init 15 = .ok (.putfield 19, 3) := by decide +kernel
theorem dX4_init_18 : decode cX4_init 18 = .ok (.aload_n 0, 1) := by decide +kernel
theorem dX4_init_19 : decode cX4_init 19 = .ok (.aload_n 0, 1) := by decide +kernel
theorem dX4_init_20 : decode cX4_init 20 = .ok (.getfield 19, 3) := by decide +kernel
theorem dX4_init_23 : decode cX4_init 23 = .ok (.newarray .int, 2) := by decide +kernel
theorem dX4_init_25 : decode cX4_init 25 = .ok (.putfield 22, 3) := by decide +kernel
theorem dX4_init_28 : decode cX4_init 28 = .ok (.aload_n 0, 1) := by decide +kernel
theorem dX4_init_29 : decode cX4_init 29 = .ok (.aload_n 0, 1) := by decide +kernel
theorem dX4_init_30 : decode cX4_init 30 = .ok (.getfield 19, 3) := by decide +kernel
theorem dX4_init_33 : decode cX4_init 33 = .ok (.newarray .int, 2) := by decide +kernel
theorem dX4_init_35 : decode cX4_init 35 = .ok (.putfield 26, 3) := by decide +kernel
theorem dX4_init_38 : decode cX4_init 38 = .ok (.aload_n 0, 1) := by decide +kernel
theorem dX4_init_39 : decode cX4_init 39 = .ok (.aload_n 0, 1) := by decide +kernel
theorem dX4_init_40 : decode cX4_init 40 = .ok (.getfield 19, 3) := by decide +kernel
theorem dX4_init_43 : decode cX4_init 43 = .ok (.newarray .int, 2) := by decide +kernel
theorem dX4_init_45 : decode cX4_init 45 = .ok (.putfield 29, 3) := by decide +kernel
theorem dX4_init_48 : decode cX4_init 48 = .ok (.return_, 1) := by decide +kernel
theorem dX4_append_0 : decode cX4_append 0 = .ok (.aload_n 0, 1) := by decide +kernel
theorem dX4_append_1 : decode cX4_append 1 = .ok (.getfield 7, 3) := by decide +kernel
theorem dX4_append_4 : decode cX4_append 4 = .ok (.aload_n 0, 1) := by decide +kernel
theorem dX4_append_5 : decode cX4_append 5 = .ok (.getfield 19, 3) := by decide +kernel
theorem dX4_append_8 : decode cX4_append 8 = .ok (.if_icmp .ge 43, 3) := by decide +kernel
theorem dX4_append_11 : decode cX4_append 11 = .ok (.aload_n 0, 1) := by decide +kernel
theorem dX4_append_12 : decode cX4_append 12 = .ok (.getfield 22, 3) := by decide +kernel
theorem dX4_append_15 : decode cX4_append 15 = .ok (.aload_n 0, 1) := by decide +kernel
theorem dX4_append_16 : decode cX4_append 16 = .ok (.getfield 7, 3) := by decide +kernel
theorem dX4_append_19 : decode cX4_append 19 = .ok (.iload_n 1, 1) := by decide +kernel
theorem dX4_append_20 : decode cX4_append 20 = .ok (.iastore, 1) := by decide +kernel
theorem dX4_append_21 : decode cX4_append 21 = .ok (.aload_n 0, 1) := by decide +kernel
theorem dX4_append_22 : decode cX4_append 22 = .ok (.getfield 26, 3) := by decide +kernel
theorem dX4_append_25 : decode cX4_append 25 = .ok (.aload_n 0, 1) := by decide +kernel
theorem dX4_append_26 : decode cX4_append 26 = .ok (.getfield 7, 3) := by decide +kernel
theorem dX4_append_29 : decode cX4_append 29 = .ok (.iload_n 2, 1) := by decide +kernel
theorem dX4_append_30 : decode cX4_append 30 = .ok (.iastore, 1) := by decide +kernel
theorem dX4_append_31 : decode cX4_append 31 = .ok (.aload_n 0, 1) := by decide +kernel
theorem dX4_append_32 : decode cX4_append 32 = .ok (.getfield 29, 3) := by decide +kernel
theorem dX4_append_35 : decode cX4_append 35 = .ok (.aload_n 0, 1) := by decide +kernel
theorem dX4_append_36 : decode cX4_append 36 = .ok (.getfield 7, 3) := by decide +kernel
theorem dX4_append_39 : decode cX4_append 39 = .ok (.iload_n 3, 1) := by decide +kernel
theorem dX4_append_40 : decode cX4_append 40 = .ok (.iastore, 1) := by decide +kernel
theorem dX4_append_41 : decode cX4_append 41 = .ok (.aload_n 0, 1) := by decide +kernel
theorem dX4_append_42 : decode cX4_append 42 = .ok (.dup, 1) := by decide +kernel
theorem dX4_append_43 : decode cX4_append 43 = .ok (.getfield 7, 3) := by decide +kernel
theorem dX4_append_46 : decode cX4_append 46 = .ok (.iconst 1, 1) := by decide +kernel
theorem dX4_append_47 : decode cX4_append 47 = .ok (.iadd, 1) := by decide +kernel
theorem dX4_append_48 : decode cX4_append 48 = .ok (.putfield 7, 3) := by decide +kernel
theorem dX4_append_51 : decode cX4_append 51 = .ok (.return_, 1) := by decide +kernel
set_option maxRecDepth 20000 in
theorem ggX4_appendAll_X4_append : GoodIn wsX4_appendAll wsX4_append := goodIn_r _ [9, 1, 10, 2, 3, 4, 11, 12, 13, 14, 15] (by decide +kernel) (by decide +kernel)
set_option maxRecDepth 20000 in
theorem gX4_appendAll_X4_append : GoodIn wsX4_appendAll (wsV RX4 32 RX4 yX4_append wsX4_append) := goodIn_app (goodIn_of _ (by decide +kernel)) ggX4_appendAll_X4_append
theorem dX4_appendAll_0 : decode cX4_appendAll 0 = .ok (.iconst 0, 1) := by decide +kernel
theorem dX4_appendAll_1 : decode cX4_appendAll 1 = .ok (.istore_n 2, 1) := by decide +kernel
theorem dX4_appendAll_2 : decode cX4_appendAll 2 = .ok (.iload_n 2, 1) := by decide +kernel
theorem dX4_appendAll_3 : decode cX4_appendAll 3 = .ok (.aload_n 1, 1) := by decide +kernel
theorem dX4_appendAll_4 : decode cX4_appendAll 4 = .ok (.getfield 7, 3) := by decide +kernel
theorem dX4_appendAll_7 : decode cX4_appendAll 7 = .ok (.if_icmp .ge 31, 3) := by decide +kernel
theorem dX4_appendAll_10 : decode cX4_appendAll 10 = .ok (.aload_n 0, 1) := by decide +kernel
theorem dX4_appendAll_11 : decode cX4_appendAll 11 = .ok (.aload_n 1, 1) := by decide +kernel
theorem dX4_appendAll_12 : decode cX4_appendAll 12 = .ok (.getfield 22, 3) := by decide +kernel
theorem dX4_appendAll_15 : decode cX4_appendAll 15 = .ok (.iload_n 2, 1) := by decide +kernel
theorem dX4_appendAll_16 : decode cX4_appendAll 16 = .ok (.iaload, 1) := by decide +kernel
theorem dX4_appendAll_17 : decode cX4_appendAll 17 = .ok (.aload_n 1, 1) := by decide +kernel
theorem dX4_appendAll_18 : decode cX4_appendAll 18 = .ok (.getfield 26, 3) := by decide +kernel
theorem dX4_appendAll_21 : decode cX4_appendAll 21 = .ok (.iload_n 2, 1) := by decide +kernel
theorem dX4_appendAll_22 : decode cX4_appendAll 22 = .ok (.iaload, 1) := by decide +kernel
theorem dX4_appendAll_23 : decode cX4_appendAll 23 = .ok (.aload_n 1, 1) := by decide +kernel
theorem dX4_appendAll_24 : decode cX4_appendAll 24 = .ok (.getfield 29, 3) := by decide +kernel
theorem dX4_appendAll_27 : decode cX4_appendAll 27 = .ok (.iload_n 2, 1) := by decide +kernel
theorem dX4_appendAll_28 : decode cX4_appendAll 28 = .ok (.iaload, 1) := by decide +kernel
theorem dX4_appendAll_29 : decode cX4_appendAll 29 = .ok (.invokevirtual 32, 3) := by decide +kernel
theorem dX4_appendAll_32 : decode cX4_appendAll 32 = .ok (.iinc 2 1, 3) := by decide +kernel
theorem dX4_appendAll_35 : decode cX4_appendAll 35 = .ok (.goto (-33), 3) := by decide +kernel
theorem dX4_appendAll_38 : decode cX4_appendAll 38 = .ok (.return_, 1) := by decide +kernel
set_option maxRecDepth 20000 in
theorem ggX4_copyFrom_X4_appendAll : GoodIn wsX4_copyFrom wsX4_appendAll := goodIn_r _ [6, 1, 7, 8, 9, 10, 11, 12, 5, 13, 14, 15, 16, 17, 18, 19] (by decide +kernel) (by decide +kernel)
set_option maxRecDepth 20000 in
theorem gX4_copyFrom_X4_appendAll : GoodIn wsX4_copyFrom (wsV RX4 36 RX4 yX4_appendAll wsX4_appendAll) := goodIn_app (goodIn_of _ (by decide +kernel)) ggX4_copyFrom_X4_appendAll
theorem dX4_copyFrom_0 : decode cX4_copyFrom 0 = .ok (.aload_n 0, 1) := by decide +kernel
theorem dX4_copyFrom_1 : decode cX4_copyFrom 1 = .ok (.iconst 0, 1) := by decide +kernel
theorem dX4_copyFrom_2 : decode cX4_copyFrom 2 = .ok (.putfield 7, 3) := by decide +kernel
theorem dX4_copyFrom_5 : decode cX4_copyFrom 5 = .ok (.aload_n 0, 1) := by decide +kernel
theorem dX4_copyFrom_6 : decode cX4_copyFrom 6 = .ok (.aload_n 1, 1) := by decide +kernel
theorem dX4_copyFrom_7 : decode cX4_copyFrom 7 = .ok (.invokevirtual 36, 3) := by decide +kernel
theorem dX4_copyFrom_10 : decode cX4_copyFrom 10 = .ok (.return_, 1) := by decide +kernel
set_option maxRecDepth 20000 in
theorem ggX4_dropFirst_X4_append : GoodIn wsX4_dropFirst wsX4_append := goodIn_r _ [13, 1, 14, 6, 7, 8, 15, 16, 17, 18, 19] (by decide +kernel) (by decide +kernel)
set_option maxRecDepth 20000 in
theorem gX4_dropFirst_X4_append : GoodIn wsX4_dropFirst (wsV RX4 32 RX4 yX4_append wsX4_append) := goodIn_app (goodIn_of _ (by decide +kernel)) ggX4_dropFirst_X4_append
theorem dX4_dropFirst_0 : decode cX4_dropFirst 0 = .ok (.aload_n 0, 1) := by decide +kernel
theorem dX4_dropFirst_1 : decode cX4_dropFirst 1 = .ok (.getfield 7, 3) := by decide +kernel
theorem dX4_dropFirst_4 : decode cX4_dropFirst 4 = .ok (.istore_n 2, 1) := by decide +kernel
theorem dX4_dropFirst_5 : decode cX4_dropFirst 5 = .ok (.aload_n 0, 1) := by decide +kernel
theorem dX4_dropFirst_6 : decode cX4_dropFirst 6 = .ok (.iconst 0, 1) := by decide +kernel
theorem dX4_dropFirst_7 : decode cX4_dropFirst 7 = .ok (.putfield 7, 3) := by decide +kernel
theorem dX4_dropFirst_10 : decode cX4_dropFirst 10 = .ok (.iload_n 1, 1) := by decide +kernel
theorem dX4_dropFirst_11 : decode cX4_dropFirst 11 = .ok (.iconst 0, 1) := by decide +kernel
theorem dX4_dropFirst_12 : decode cX4_dropFirst 12 = .ok (.invokestatic 13, 3) := by decide +kernel
theorem dX4_dropFirst_15 : decode cX4_dropFirst 15 = .ok (.istore_n 3, 1) := by decide +kernel
theorem dX4_dropFirst_16 : decode cX4_dropFirst 16 = .ok (.iload_n 3, 1) := by decide +kernel
theorem dX4_dropFirst_17 : decode cX4_dropFirst 17 = .ok (.iload_n 2, 1) := by decide +kernel
theorem dX4_dropFirst_18 : decode cX4_dropFirst 18 = .ok (.if_icmp .ge 31, 3) := by decide +kernel
theorem dX4_dropFirst_21 : decode cX4_dropFirst 21 = .ok (.aload_n 0, 1) := by decide +kernel
theorem dX4_dropFirst_22 : decode cX4_dropFirst 22 = .ok (.aload_n 0, 1) := by decide +kernel
theorem dX4_dropFirst_23 : decode cX4_dropFirst 23 = .ok (.getfield 22, 3) := by decide +kernel
theorem dX4_dropFirst_26 : decode cX4_dropFirst 26 = .ok (.iload_n 3, 1) := by decide +kernel
theorem dX4_dropFirst_27 : decode cX4_dropFirst 27 = .ok (.iaload, 1) := by decide +kernel
theorem dX4_dropFirst_28 : decode cX4_dropFirst 28 = .ok (.aload_n 0, 1) := by decide +kernel
theorem dX4_dropFirst_29 : decode cX4_dropFirst 29 = .ok (.getfield 26, 3) := by decide +kernel
theorem dX4_dropFirst_32 : decode cX4_dropFirst 32 = .ok (.iload_n 3, 1) := by decide +kernel
theorem dX4_dropFirst_33 : decode cX4_dropFirst 33 = .ok (.iaload, 1) := by decide +kernel
theorem dX4_dropFirst_34 : decode cX4_dropFirst 34 = .ok (.aload_n 0, 1) := by decide +kernel
theorem dX4_dropFirst_35 : decode cX4_dropFirst 35 = .ok (.getfield 29, 3) := by decide +kernel
theorem dX4_dropFirst_38 : decode cX4_dropFirst 38 = .ok (.iload_n 3, 1) := by decide +kernel
theorem dX4_dropFirst_39 : decode cX4_dropFirst 39 = .ok (.iaload, 1) := by decide +kernel
theorem dX4_dropFirst_40 : decode cX4_dropFirst 40 = .ok (.invokevirtual 32, 3) := by decide +kernel
theorem dX4_dropFirst_43 : decode cX4_dropFirst 43 = .ok (.iinc 3 1, 3) := by decide +kernel
theorem dX4_dropFirst_46 : decode cX4_dropFirst 46 = .ok (.goto (-30), 3) := by decide +kernel
theorem dX4_dropFirst_49 : decode cX4_dropFirst 49 = .ok (.return_, 1) := by decide +kernel
theorem dX4_sizeAt_0 : decode cX4_sizeAt 0 = .ok (.iconst 0, 1) := by decide +kernel
theorem dX4_sizeAt_1 : decode cX4_sizeAt 1 = .ok (.istore_n 2, 1) := by decide +kernel
theorem dX4_sizeAt_2 : decode cX4_sizeAt 2 = .ok (.iconst 0, 1) := by decide +kernel
theorem dX4_sizeAt_3 : decode cX4_sizeAt 3 = .ok (.istore_n 3, 1) := by decide +kernel
theorem dX4_sizeAt_4 : decode cX4_sizeAt 4 = .ok (.iload_n 3, 1) := by decide +kernel
theorem dX4_sizeAt_5 : decode cX4_sizeAt 5 = .ok (.aload_n 0, 1) := by decide +kernel
theorem dX4_sizeAt_6 : decode cX4_sizeAt 6 = .ok (.getfield 7, 3) := by decide +kernel
theorem dX4_sizeAt_9 : decode cX4_sizeAt 9 = .ok (.if_icmp .ge 22, 3) := by decide +kernel
theorem dX4_sizeAt_12 : decode cX4_sizeAt 12 = .ok (.aload_n 0, 1) := by decide +kernel
theorem dX4_sizeAt_13 : decode cX4_sizeAt 13 = .ok (.getfield 22, 3) := by decide +kernel
theorem dX4_sizeAt_16 : decode cX4_sizeAt 16 = .ok (.iload_n 3, 1) := by decide +kernel
theorem dX4_sizeAt_17 : decode cX4_sizeAt 17 = .ok (.iaload, 1) := by decide +kernel
theorem dX4_sizeAt_18 : decode cX4_sizeAt 18 = .ok (.iload_n 1, 1) := by decide +kernel
theorem dX4_sizeAt_19 : decode cX4_sizeAt 19 = .ok (.if_icmp .ne 6, 3) := by decide +kernel
theorem dX4_sizeAt_22 : decode cX4_sizeAt 22 = .ok (.iinc 2 1, 3) := by decide +kernel
theorem dX4_sizeAt_25 : decode cX4_sizeAt 25 = .ok (.iinc 3 1, 3) := by decide +kernel
theorem dX4_sizeAt_28 : decode cX4_sizeAt 28 = .ok (.goto (-24), 3) := by decide +kernel
theorem dX4_sizeAt_31 : decode cX4_sizeAt 31 = .ok (.iload_n 2, 1) := by decide +kernel
theorem dX4_sizeAt_32 : decode cX4_sizeAt 32 = .ok (.ireturn, 1) := by decide +kernel
set_option maxRecDepth 20000 in
theorem ggX4_dropSide_X4_append : GoodIn wsX4_dropSide wsX4_append := goodIn_r _ [9, 1, 10, 2, 3, 4, 11, 12, 13, 14, 15] (by decide +kernel) (by decide +kernel)
set_option maxRecDepth 20000 in
theorem gX4_dropSide_X4_append : GoodIn wsX4_dropSide (wsV RX4 32 RX4 yX4_append wsX4_append) := goodIn_app (goodIn_of _ (by decide +kernel)) ggX4_dropSide_X4_append
theorem dX4_dropSide_0 : decode cX4_dropSide 0 = .ok (.aload_n 0, 1) := by decide +kernel
theorem dX4_dropSide_1 : decode cX4_dropSide 1 = .ok (.getfield 7, 3) := by decide +kernel
theorem dX4_dropSide_4 : decode cX4_dropSide 4 = .ok (.istore_n 2, 1) := by decide +kernel
theorem dX4_dropSide_5 : decode cX4_dropSide 5 = .ok (.aload_n 0, 1) := by decide +kernel
theorem dX4_dropSide_6 : decode cX4_dropSide 6 = .ok (.iconst 0, 1) := by decide +kernel
theorem dX4_dropSide_7 : decode cX4_dropSide 7 = .ok (.putfield 7, 3) := by decide +kernel
theorem dX4_dropSide_10 : decode cX4_dropSide 10 = .ok (.iconst 0, 1) := by decide +kernel
theorem dX4_dropSide_11 : decode cX4_dropSide 11 = .ok (.istore_n 3, 1) := by decide +kernel
theorem dX4_dropSide_12 : decode cX4_dropSide 12 = .ok (.iload_n 3, 1) := by decide +kernel
theorem dX4_dropSide_13 : decode cX4_dropSide 13 = .ok (.iload_n 2, 1) := by decide +kernel
theorem dX4_dropSide_14 : decode cX4_dropSide 14 = .ok (.if_icmp .ge 41, 3) := by decide +kernel
theorem dX4_dropSide_17 : decode cX4_dropSide 17 = .ok (.aload_n 0, 1) := by decide +kernel
theorem dX4_dropSide_18 : decode cX4_dropSide 18 = .ok (.getfield 22, 3) := by decide +kernel
theorem dX4_dropSide_21 : decode cX4_dropSide 21 = .ok (.iload_n 3, 1) := by decide +kernel
theorem dX4_dropSide_22 : decode cX4_dropSide 22 = .ok (.iaload, 1) := by decide +kernel
theorem dX4_dropSide_23 : decode cX4_dropSide 23 = .ok (.iload_n 1, 1) := by decide +kernel
theorem dX4_dropSide_24 : decode cX4_dropSide 24 = .ok (.if_icmp .eq 25, 3) := by decide +kernel
theorem dX4_dropSide_27 : decode cX4_dropSide 27 = .ok (.aload_n 0, 1) := by decide +kernel
theorem dX4_dropSide_28 : decode cX4_dropSide 28 = .ok (.aload_n 0, 1) := by decide +kernel
theorem dX4_dropSide_29 : decode cX4_dropSide 29 = .ok (.getfield 22, 3) := by decide +kernel
theorem dX4_dropSide_32 : decode cX4_dropSide 32 = .ok (.iload_n 3, 1) := by decide +kernel
theorem dX4_dropSide_33 : decode cX4_dropSide 33 = .ok (.iaload, 1) := by decide +kernel
theorem dX4_dropSide_34 : decode cX4_dropSide 34 = .ok (.aload_n 0, 1) := by decide +kernel
theorem dX4_dropSide_35 : decode cX4_dropSide 35 = .ok (.getfield 26, 3) := by decide +kernel
theorem dX4_dropSide_38 : decode cX4_dropSide 38 = .ok (.iload_n 3, 1) := by decide +kernel
theorem dX4_dropSide_39 : decode cX4_dropSide 39 = .ok (.iaload, 1) := by decide +kernel
theorem dX4_dropSide_40 : decode cX4_dropSide 40 = .ok (.aload_n 0, 1) := by decide +kernel
theorem dX4_dropSide_41 : decode cX4_dropSide 41 = .ok (.getfield 29, 3) := by decide +kernel
theorem dX4_dropSide_44 : decode cX4_dropSide 44 = .ok (.iload_n 3, 1) := by decide +kernel
theorem dX4_dropSide_45 : decode cX4_dropSide 45 = .ok (.iaload, 1) := by decide +kernel
theorem dX4_dropSide_46 : decode cX4_dropSide 46 = .ok (.invokevirtual 32, 3) := by decide +kernel
theorem dX4_dropSide_49 : decode cX4_dropSide 49 = .ok (.iinc 3 1, 3) := by decide +kernel
theorem dX4_dropSide_52 : decode cX4_dropSide 52 = .ok (.goto (-40), 3) := by decide +kernel
theorem dX4_dropSide_55 : decode cX4_dropSide 55 = .ok (.iload_n 2, 1) := by decide +kernel
theorem dX4_dropSide_56 : decode cX4_dropSide 56 = .ok (.aload_n 0, 1) := by decide +kernel
theorem dX4_dropSide_57 : decode cX4_dropSide 57 = .ok (.getfield 7, 3) := by decide +kernel
theorem dX4_dropSide_60 : decode cX4_dropSide 60 = .ok (.isub, 1) := by decide +kernel
theorem dX4_dropSide_61 : decode cX4_dropSide 61 = .ok (.ireturn, 1) := by decide +kernel
set_option maxRecDepth 20000 in
theorem ggX5_init_X4_init : GoodIn wsX5_init wsX4_init := goodIn_r _ [26, 27, 2, 3, 28, 29, 30, 31, 32, 33, 4, 34, 35, 36, 54, 55, 56, 57, 58] (by decide +kernel) (by decide +kernel)
set_option maxRecDepth 20000 in
theorem gX5_init_X4_init : GoodIn wsX5_init (wsX4_init) := ggX5_init_X4_init
set_option maxRecDepth 20000 in
theorem ggX5_init_X5_coverWith : GoodIn wsX5_init wsX5_coverWith := goodIn_r _ [41, 5, 42, 43, 44, 45, 46, 47, 48, 49, 50, 51, 52, 53] (by decide +kernel) (by decide +kernel)
set_option maxRecDepth 20000 in
theorem gX5_init_X5_coverWith : GoodIn wsX5_init (wsV RX5 55 RX5 yX5_coverWith wsX5_coverWith) := goodIn_app (goodIn_of _ (by decide +kernel)) ggX5_init_X5_coverWith
theorem dX5_init_0 : decode cX5_init 0 = .ok (.aload_n 0, 1) := by decide +kernel
theorem dX5_init_1 : decode cX5_init 1 = .ok (.invokespecial 3, 3) := by decide +kernel
theorem dX5_init_4 : decode cX5_init 4 = .ok (.aload_n 0, 1) := by decide +kernel
theorem dX5_init_5 : decode cX5_init 5 = .ok (.sipush 144, 3) := by decide +kernel
theorem dX5_init_8 : decode cX5_init 8 = .ok (.newarray .int, 2) := by decide +kernel
theorem dX5_init_10 : decode cX5_init 10 = .ok (.putfield 9, 3) := by decide +kernel
theorem dX5_init_13 : decode cX5_init 13 = .ok (.aload_n 0, 1) := by decide +kernel
theorem dX5_init_14 : decode cX5_init 14 = .ok (.iconst 4, 1) := by decide +kernel
theorem dX5_init_15 : decode cX5_init 15 = .ok (.newarray .int, 2) := by decide +kernel
theorem dX5_init_17 : decode cX5_init 17 = .ok (.putfield 15, 3) := by decide +kernel
theorem dX5_init_20 : decode cX5_init 20 = .ok (.aload_n 0, 1) := by decide +kernel
theorem dX5_init_21 : decode cX5_init 21 = .ok (.iconst 4, 1) := by decide +kernel
theorem dX5_init_22 : decode cX5_init 22 = .ok (.newarray .int, 2) := by decide +kernel
theorem dX5_init_24 : decode cX5_init 24 = .ok (.putfield 18, 3) := by decide +kernel
theorem dX5_init_27 : decode cX5_init 27 = .ok (.aload_n 0, 1) := by decide +kernel
theorem dX5_init_28 : decode cX5_init 28 = .ok (.iconst 0, 1) := by decide +kernel
theorem dX5_init_29 : decode cX5_init 29 = .ok (.putfield 21, 3) := by decide +kernel
theorem dX5_init_32 : decode cX5_init 32 = .ok (.aload_n 0, 1) := by decide +kernel
theorem dX5_init_33 : decode cX5_init 33 = .ok (.iconst 4, 1) := by decide +kernel
theorem dX5_init_34 : decode cX5_init 34 = .ok (.newarray .int, 2) := by decide +kernel
theorem dX5_init_36 : decode cX5_init 36 = .ok (.putfield 25, 3) := by decide +kernel
theorem dX5_init_39 : decode cX5_init 39 = .ok (.aload_n 0, 1) := by decide +kernel
theorem dX5_init_40 : decode cX5_init 40 = .ok (.new 28, 3) := by decide +kernel
theorem dX5_init_43 : decode cX5_init 43 = .ok (.dup, 1) := by decide +kernel
theorem dX5_init_44 : decode cX5_init 44 = .ok (.bipush 16, 2) := by decide +kernel
theorem dX5_init_46 : decode cX5_init 46 = .ok (.invokespecial 30, 3) := by decide +kernel
theorem dX5_init_49 : decode cX5_init 49 = .ok (.putfield 33, 3) := by decide +kernel
theorem dX5_init_52 : decode cX5_init 52 = .ok (.aload_n 0, 1) := by decide +kernel
theorem dX5_init_53 : decode cX5_init 53 = .ok (.iconst (-1), 1) := by decide +kernel
theorem dX5_init_54 : decode cX5_init 54 = .ok (.putfield 37, 3) := by decide +kernel
theorem dX5_init_57 : decode cX5_init 57 = .ok (.aload_n 0, 1) := by decide +kernel
theorem dX5_init_58 : decode cX5_init 58 = .ok (.sipush 720, 3) := by decide +kernel
theorem dX5_init_61 : decode cX5_init 61 = .ok (.putfield 40, 3) := by decide +kernel
theorem dX5_init_64 : decode cX5_init 64 = .ok (.aload_n 0, 1) := by decide +kernel
theorem dX5_init_65 : decode cX5_init 65 = .ok (.iconst 0, 1) := by decide +kernel
theorem dX5_init_66 : decode cX5_init 66 = .ok (.putfield 43, 3) := by decide +kernel
theorem dX5_init_69 : decode cX5_init 69 = .ok (.aload_n 0, 1) := by decide +kernel
theorem dX5_init_70 : decode cX5_init 70 = .ok (.iconst 0, 1) := by decide +kernel
theorem dX5_init_71 : decode cX5_init 71 = .ok (.putfield 46, 3) := by decide +kernel
theorem dX5_init_74 : decode cX5_init 74 = .ok (.aload_n 0, 1) := by decide +kernel
theorem dX5_init_75 : decode cX5_init 75 = .ok (.iconst 0, 1) := by decide +kernel
theorem dX5_init_76 : decode cX5_init 76 = .ok (.putfield 49, 3) := by decide +kernel
theorem dX5_init_79 : decode cX5_init 79 = .ok (.aload_n 0, 1) := by decide +kernel
theorem dX5_init_80 : decode cX5_init 80 = .ok (.iconst 0, 1) := by decide +kernel
theorem dX5_init_81 : decode cX5_init 81 = .ok (.putfield 52, 3) := by decide +kernel
theorem dX5_init_84 : decode cX5_init 84 = .ok (.aload_n 0, 1) := by decide +kernel
theorem dX5_init_85 : decode cX5_init 85 = .ok (.iconst 5, 1) := by decide +kernel
theorem dX5_init_86 : decode cX5_init 86 = .ok (.invokevirtual 55, 3) := by decide +kernel
theorem dX5_init_89 : decode cX5_init 89 = .ok (.getstatic 58, 3) := by decide +kernel
theorem dX5_init_92 : decode cX5_init 92 = .ok (.iconst 0, 1) := by decide +kernel
theorem dX5_init_93 : decode cX5_init 93 = .ok (.aload_n 0, 1) := by decide +kernel
theorem dX5_init_94 : decode cX5_init 94 = .ok (.getfield 25, 3) := by decide +kernel
theorem dX5_init_97 : decode cX5_init 97 = .ok (.iconst 0, 1) := by decide +kernel
theorem dX5_init_98 : decode cX5_init 98 = .ok (.iconst 4, 1) := by decide +kernel
theorem dX5_init_99 : decode cX5_init 99 = .ok (.invokestatic 61, 3) := by decide +kernel
theorem dX5_init_102 : decode cX5_init 102 = .ok (.return_, 1) := by decide +kernel
set_option maxRecDepth 20000 in
theorem ggX5_copyFrom_X4_copyFrom : GoodIn wsX5_copyFrom wsX4_copyFrom := goodIn_r _ [21, 22, 23, 24, 25, 20, 26, 27, 28, 29, 30, 31, 32, 33, 34, 47, 48, 49, 50, 51] (by decide +kernel) (by decide +kernel)
set_option maxRecDepth 20000 in
theorem gX5_copyFrom_X4_copyFrom : GoodIn wsX5_copyFrom (wsV RX5 67 RX4 yX4_copyFrom wsX4_copyFrom) := goodIn_app (goodIn_of _ (by decide +kernel)) ggX5_copyFrom_X4_copyFrom
theorem dX5_copyFrom_0 : decode cX5_copyFrom 0 = .ok (.aload_n 1, 1) := by decide +kernel
theorem dX5_copyFrom_1 : decode cX5_copyFrom 1 = .ok (.getfield 9, 3) := by decide +kernel
theorem dX5_copyFrom_4 : decode cX5_copyFrom 4 = .ok (.iconst 0, 1) := by decide +kernel
theorem dX5_copyFrom_5 : decode cX5_copyFrom 5 = .ok (.aload_n 0, 1) := by decide +kernel
theorem dX5_copyFrom_6 : decode cX5_copyFrom 6 = .ok (.getfield 9, 3) := by decide +kernel
theorem dX5_copyFrom_9 : decode cX5_copyFrom 9 = .ok (.iconst 0, 1) := by decide +kernel
theorem dX5_copyFrom_10 : decode cX5_copyFrom 10 = .ok (.sipush 144, 3) := by decide +kernel
theorem dX5_copyFrom_13 : decode cX5_copyFrom 13 = .ok (.invokestatic 61, 3) := by decide +kernel
theorem dX5_copyFrom_16 : decode cX5_copyFrom 16 = .ok (.aload_n 1, 1) := by decide +kernel
theorem dX5_copyFrom_17 : decode cX5_copyFrom 17 = .ok (.getfield 15, 3) := by decide +kernel
theorem dX5_copyFrom_20 : decode cX5_copyFrom 20 = .ok (.iconst 0, 1) := by decide +kernel
theorem dX5_copyFrom_21 : decode cX5_copyFrom 21 = .ok (.aload_n 0, 1) := by decide +kernel
theorem dX5_copyFrom_22 : decode cX5_copyFrom 22 = .ok (.getfield 15, 3) := by decide +kernel
theorem dX5_copyFrom_25 : decode cX5_copyFrom 25 = .ok (.iconst 0, 1) := by decide +kernel
theorem dX5_copyFrom_26 : decode cX5_copyFrom 26 = .ok (.iconst 4, 1) := by decide +kernel
theorem dX5_copyFrom_27 : decode cX5_copyFrom 27 = .ok (.invokestatic 61, 3) := by decide +kernel
theorem dX5_copyFrom_30 : decode cX5_copyFrom 30 = .ok (.aload_n 1, 1) := by decide +kernel
theorem dX5_copyFrom_31 : decode cX5_copyFrom 31 = .ok (.getfield 18, 3) := by decide +kernel
theorem dX5_copyFrom_34 : decode cX5_copyFrom 34 = .ok (.iconst 0, 1) := by decide +kernel
theorem dX5_copyFrom_35 : decode cX5_copyFrom 35 = .ok (.aload_n 0, 1) := by decide +kernel
theorem dX5_copyFrom_36 : decode cX5_copyFrom 36 = .ok (.getfield 18, 3) := by decide +kernel
theorem dX5_copyFrom_39 : decode cX5_copyFrom 39 = .ok (.iconst 0, 1) := by decide +kernel
theorem dX5_copyFrom_40 : decode cX5_copyFrom 40 = .ok (.iconst 4, 1) := by decide +kernel
theorem dX5_copyFrom_41 : decode cX5_copyFrom 41 = .ok (.invokestatic 61, 3) := by decide +kernel
theorem dX5_copyFrom_44 : decode cX5_copyFrom 44 = .ok (.aload_n 0, 1) := by decide +kernel
theorem dX5_copyFrom_45 : decode cX5_copyFrom 45 = .ok (.aload_n 1, 1) := by decide +kernel
theorem dX5_copyFrom_46 : decode cX5_copyFrom 46 = .ok (.getfield 21, 3) := by decide +kernel
theorem dX5_copyFrom_49 : decode cX5_copyFrom 49 = .ok (.putfield 21, 3) := by decide +kernel
theorem dX5_copyFrom_52 : decode cX5_copyFrom 52 = .ok (.aload_n 1, 1) := by decide +kernel
theorem dX5_copyFrom_53 : decode cX5_copyFrom 53 = .ok (.getfield 25, 3) := by decide +kernel
theorem dX5_copyFrom_56 : decode cX5_copyFrom 56 = .ok (.iconst 0, 1) := by decide +kernel
theorem dX5_copyFrom_57 : decode cX5_copyFrom 57 = .ok (.aload_n 0, 1) := by decide +kernel
theorem dX5_copyFrom_58 : decode cX5_copyFrom 58 = .ok (.getfield 25, 3) := by decide +kernel
theorem dX5_copyFrom_61 : decode cX5_copyFrom 61 = .ok (.iconst 0, 1) := by decide +kernel
theorem dX5_copyFrom_62 : decode cX5_copyFrom 62 = .ok (.iconst 4, 1) := by decide +kernel
theorem dX5_copyFrom_63 : decode cX5_copyFrom 63 = .ok (.invokestatic 61, 3) := by decide +kernel
theorem dX5_copyFrom_66 : decode cX5_copyFrom 66 = .ok (.aload_n 0, 1) := by decide +kernel
theorem dX5_copyFrom_67 : decode cX5_copyFrom 67 = .ok (.getfield 33, 3) := by decide +kernel
theorem dX5_copyFrom_70 : decode cX5_copyFrom 70 = .ok (.aload_n 1, 1) := by decide +kernel
theorem dX5_copyFrom_71 : decode cX5_copyFrom 71 = .ok (.getfield 33, 3) := by decide +kernel
theorem dX5_copyFrom_74 : decode cX5_copyFrom 74 = .ok (.invokevirtual 67, 3) := by decide +kernel
theorem dX5_copyFrom_77 : decode cX5_copyFrom 77 = .ok (.aload_n 0, 1) := by decide +kernel
theorem dX5_copyFrom_78 : decode cX5_copyFrom 78 = .ok (.aload_n 1, 1) := by decide +kernel
theorem dX5_copyFrom_79 : decode cX5_copyFrom 79 = .ok (.getfield 37, 3) := by decide +kernel
theorem dX5_copyFrom_82 : decode cX5_copyFrom 82 = .ok (.putfield 37, 3) := by decide +kernel
theorem dX5_copyFrom_85 : decode cX5_copyFrom 85 = .ok (.aload_n 0, 1) := by decide +kernel
theorem dX5_copyFrom_86 : decode cX5_copyFrom 86 = .ok (.aload_n 1, 1) := by decide +kernel
theorem dX5_copyFrom_87 : decode cX5_copyFrom 87 = .ok (.getfield 40, 3) := by decide +kernel
theorem dX5_copyFrom_90 : decode cX5_copyFrom 90 = .ok (.putfield 40, 3) := by decide +kernel
theorem dX5_copyFrom_93 : decode cX5_copyFrom 93 = .ok (.aload_n 0, 1) := by decide +kernel
theorem dX5_copyFrom_94 : decode cX5_copyFrom 94 = .ok (.aload_n 1, 1) := by decide +kernel
theorem dX5_copyFrom_95 : decode cX5_copyFrom 95 = .ok (.getfield 43, 3) := by decide +kernel
theorem dX5_copyFrom_98 : decode cX5_copyFrom 98 = .ok (.putfield 43, 3) := by decide +kernel
theorem dX5_copyFrom_101 : decode cX5_copyFrom 101 = .ok (.aload_n 0, 1) := by decide +kernel
theorem dX5_copyFrom_102 : decode cX5_copyFrom 102 = .ok (.aload_n 1, 1) := by decide +kernel
theorem dX5_copyFrom_103 : decode cX5_copyFrom 103 = .ok (.getfield 46, 3) := by decide +kernel
theorem dX5_copyFrom_106 : decode cX5_copyFrom 106 = .ok (.putfield 46, 3) := by decide +kernel
theorem dX5_copyFrom_109 : decode cX5_copyFrom 109 = .ok (.aload_n 0, 1) := by decide +kernel
theorem dX5_copyFrom_110 : decode cX5_copyFrom 110 = .ok (.aload_n 1, 1) := by decide +kernel
theorem dX5_copyFrom_111 : decode cX5_copyFrom 111 = .ok (.getfield 49, 3) := by decide +kernel
theorem dX5_copyFrom_114 : decode cX5_copyFrom 114 = .ok (.putfield 49, 3) := by decide +kernel
theorem dX5_copyFrom_117 : decode cX5_copyFrom 117 = .ok (.aload_n 0, 1) := by decide +kernel
theorem dX5_copyFrom_118 : decode cX5_copyFrom 118 = .ok (.aload_n 1, 1) := by decide +kernel
theorem dX5_copyFrom_119 : decode cX5_copyFrom 119 = .ok (.getfield 52, 3) := by decide +kernel
theorem dX5_copyFrom_122 : decode cX5_copyFrom 122 = .ok (.putfield 52, 3) := by decide +kernel
theorem dX5_copyFrom_125 : decode cX5_copyFrom 125 = .ok (.return_, 1) := by decide +kernel
theorem dX5_coverWith_0 : decode cX5_coverWith 0 = .ok (.iconst 0, 1) := by decide +kernel
theorem dX5_coverWith_1 : decode cX5_coverWith 1 = .ok (.istore_n 2, 1) := by decide +kernel
theorem dX5_coverWith_2 : decode cX5_coverWith 2 = .ok (.iload_n 2, 1) := by decide +kernel
theorem dX5_coverWith_3 : decode cX5_coverWith 3 = .ok (.sipush 144, 3) := by decide +kernel
theorem dX5_coverWith_6 : decode cX5_coverWith 6 = .ok (.if_icmp .ge 16, 3) := by decide +kernel
theorem dX5_coverWith_9 : decode cX5_coverWith 9 = .ok (.aload_n 0, 1) := by decide +kernel
theorem dX5_coverWith_10 : decode cX5_coverWith 10 = .ok (.getfield 9, 3) := by decide +kernel
theorem dX5_coverWith_13 : decode cX5_coverWith 13 = .ok (.iload_n 2, 1) := by decide +kernel
theorem dX5_coverWith_14 : decode cX5_coverWith 14 = .ok (.iload_n 1, 1) := by decide +kernel
theorem dX5_coverWith_15 : decode cX5_coverWith 15 = .ok (.iastore, 1) := by decide +kernel
theorem dX5_coverWith_16 : decode cX5_coverWith 16 = .ok (.iinc 2 1, 3) := by decide +kernel
theorem dX5_coverWith_19 : decode cX5_coverWith 19 = .ok (.goto (-17), 3) := by decide +kernel
theorem dX5_coverWith_22 : decode cX5_coverWith 22 = .ok (.return_, 1) := by decide +kernel
theorem dX5_allGrains_0 : decode cX5_allGrains 0 = .ok (.iconst 0, 1) := by decide +kernel
theorem dX5_allGrains_1 : decode cX5_allGrains 1 = .ok (.istore_n 1, 1) := by decide +kernel
theorem dX5_allGrains_2 : decode cX5_allGrains 2 = .ok (.iconst 0, 1) := by decide +kernel
theorem dX5_allGrains_3 : decode cX5_allGrains 3 = .ok (.istore_n 2, 1) := by decide +kernel
theorem dX5_allGrains_4 : decode cX5_allGrains 4 = .ok (.iload_n 2, 1) := by decide +kernel
theorem dX5_allGrains_5 : decode cX5_allGrains 5 = .ok (.sipush 144, 3) := by decide +kernel
theorem dX5_allGrains_8 : decode cX5_allGrains 8 = .ok (.if_icmp .ge 18, 3) := by decide +kernel
theorem dX5_allGrains_11 : decode cX5_allGrains 11 = .ok (.iload_n 1, 1) := by decide +kernel
theorem dX5_allGrains_12 : decode cX5_allGrains 12 = .ok (.aload_n 0, 1) := by decide +kernel
theorem dX5_allGrains_13 : decode cX5_allGrains 13 = .ok (.getfield 9, 3) := by decide +kernel
theorem dX5_allGrains_16 : decode cX5_allGrains 16 = .ok (.iload_n 2, 1) := by decide +kernel
theorem dX5_allGrains_17 : decode cX5_allGrains 17 = .ok (.iaload, 1) := by decide +kernel
theorem dX5_allGrains_18 : decode cX5_allGrains 18 = .ok (.iadd, 1) := by decide +kernel
theorem dX5_allGrains_19 : decode cX5_allGrains 19 = .ok (.istore_n 1, 1) := by decide +kernel
theorem dX5_allGrains_20 : decode cX5_allGrains 20 = .ok (.iinc 2 1, 3) := by decide +kernel
theorem dX5_allGrains_23 : decode cX5_allGrains 23 = .ok (.goto (-19), 3) := by decide +kernel
theorem dX5_allGrains_26 : decode cX5_allGrains 26 = .ok (.iload_n 1, 1) := by decide +kernel
theorem dX5_allGrains_27 : decode cX5_allGrains 27 = .ok (.ireturn, 1) := by decide +kernel
theorem dX5_mostGrains_0 : decode cX5_mostGrains 0 = .ok (.iconst 0, 1) := by decide +kernel
theorem dX5_mostGrains_1 : decode cX5_mostGrains 1 = .ok (.istore_n 1, 1) := by decide +kernel
theorem dX5_mostGrains_2 : decode cX5_mostGrains 2 = .ok (.iconst 0, 1) := by decide +kernel
theorem dX5_mostGrains_3 : decode cX5_mostGrains 3 = .ok (.istore_n 2, 1) := by decide +kernel
theorem dX5_mostGrains_4 : decode cX5_mostGrains 4 = .ok (.iload_n 2, 1) := by decide +kernel
theorem dX5_mostGrains_5 : decode cX5_mostGrains 5 = .ok (.sipush 144, 3) := by decide +kernel
theorem dX5_mostGrains_8 : decode cX5_mostGrains 8 = .ok (.if_icmp .ge 20, 3) := by decide +kernel
theorem dX5_mostGrains_11 : decode cX5_mostGrains 11 = .ok (.iload_n 1, 1) := by decide +kernel
theorem dX5_mostGrains_12 : decode cX5_mostGrains 12 = .ok (.aload_n 0, 1) := by decide +kernel
theorem dX5_mostGrains_13 : decode cX5_mostGrains 13 = .ok (.getfield 9, 3) := by decide +kernel
theorem dX5_mostGrains_16 : decode cX5_mostGrains 16 = .ok (.iload_n 2, 1) := by decide +kernel
theorem dX5_mostGrains_17 : decode cX5_mostGrains 17 = .ok (.iaload, 1) := by decide +kernel
theorem dX5_mostGrains_18 : decode cX5_mostGrains 18 = .ok (.invokestatic 71, 3) := by decide +kernel
theorem dX5_mostGrains_21 : decode cX5_mostGrains 21 = .ok (.istore_n 1, 1) := by decide +kernel
theorem dX5_mostGrains_22 : decode cX5_mostGrains 22 = .ok (.iinc 2 1, 3) := by decide +kernel
theorem dX5_mostGrains_25 : decode cX5_mostGrains 25 = .ok (.goto (-21), 3) := by decide +kernel
theorem dX5_mostGrains_28 : decode cX5_mostGrains 28 = .ok (.iload_n 1, 1) := by decide +kernel
theorem dX5_mostGrains_29 : decode cX5_mostGrains 29 = .ok (.ireturn, 1) := by decide +kernel
theorem dX5_clampOn_0 : decode cX5_clampOn 0 = .ok (.iconst 0, 1) := by decide +kernel
theorem dX5_clampOn_1 : decode cX5_clampOn 1 = .ok (.istore_n 3, 1) := by decide +kernel
theorem dX5_clampOn_2 : decode cX5_clampOn 2 = .ok (.iload_n 3, 1) := by decide +kernel
theorem dX5_clampOn_3 : decode cX5_clampOn 3 = .ok (.aload_n 0, 1) := by decide +kernel
theorem dX5_clampOn_4 : decode cX5_clampOn 4 = .ok (.getfield 21, 3) := by decide +kernel
theorem dX5_clampOn_7 : decode cX5_clampOn 7 = .ok (.if_icmp .ge 31, 3) := by decide +kernel
theorem dX5_clampOn_10 : decode cX5_clampOn 10 = .ok (.aload_n 0, 1) := by decide +kernel
theorem dX5_clampOn_11 : decode cX5_clampOn 11 = .ok (.getfield 15, 3) := by decide +kernel
theorem dX5_clampOn_14 : decode cX5_clampOn 14 = .ok (.iload_n 3, 1) := by decide +kernel
theorem dX5_clampOn_15 : decode cX5_clampOn 15 = .ok (.iaload, 1) := by decide +kernel
theorem dX5_clampOn_16 : decode cX5_clampOn 16 = .ok (.iload_n 1, 1) := by decide +kernel
theorem dX5_clampOn_17 : decode cX5_clampOn 17 = .ok (.if_icmp .ne 15, 3) := by decide +kernel
theorem dX5_clampOn_20 : decode cX5_clampOn 20 = .ok (.aload_n 0, 1) := by decide +kernel
theorem dX5_clampOn_21 : decode cX5_clampOn 21 = .ok (.getfield 18, 3) := by decide +kernel
theorem dX5_clampOn_24 : decode cX5_clampOn 24 = .ok (.iload_n 3, 1) := by decide +kernel
theorem dX5_clampOn_25 : decode cX5_clampOn 25 = .ok (.iaload, 1) := by decide +kernel
theorem dX5_clampOn_26 : decode cX5_clampOn 26 = .ok (.iload_n 2, 1) := by decide +kernel
theorem dX5_clampOn_27 : decode cX5_clampOn 27 = .ok (.if_icmp .ne 5, 3) := by decide +kernel
theorem dX5_clampOn_30 : decode cX5_clampOn 30 = .ok (.iload_n 3, 1) := by decide +kernel
theorem dX5_clampOn_31 : decode cX5_clampOn 31 = .ok (.ireturn, 1) := by decide +kernel
theorem dX5_clampOn_32 : decode cX5_clampOn 32 = .ok (.iinc 3 1, 3) := by decide +kernel
theorem dX5_clampOn_35 : decode cX5_clampOn 35 = .ok (.goto (-33), 3) := by decide +kernel
theorem dX5_clampOn_38 : decode cX5_clampOn 38 = .ok (.iconst (-1), 1) := by decide +kernel
theorem dX5_clampOn_39 : decode cX5_clampOn 39 = .ok (.ireturn, 1) := by decide +kernel
theorem dX5_dropClamp_0 : decode cX5_dropClamp 0 = .ok (.iload_n 1, 1) := by decide +kernel
theorem dX5_dropClamp_1 : decode cX5_dropClamp 1 = .ok (.ifCond .lt 11, 3) := by decide +kernel
theorem dX5_dropClamp_4 : decode cX5_dropClamp 4 = .ok (.iload_n 1, 1) := by decide +kernel
theorem dX5_dropClamp_5 : decode cX5_dropClamp 5 = .ok (.aload_n 0, 1) := by decide +kernel
theorem dX5_dropClamp_6 : decode cX5_dropClamp 6 = .ok (.getfield 21, 3) := by decide +kernel
theorem dX5_dropClamp_9 : decode cX5_dropClamp 9 = .ok (.if_icmp .lt 4, 3) := by decide +kernel
theorem dX5_dropClamp_12 : decode cX5_dropClamp 12 = .ok (.return_, 1) := by decide +kernel
theorem dX5_dropClamp_13 : decode cX5_dropClamp 13 = .ok (.iload_n 1, 1) := by decide +kernel
theorem dX5_dropClamp_14 : decode cX5_dropClamp 14 = .ok (.istore_n 2, 1) := by decide +kernel
theorem dX5_dropClamp_15 : decode cX5_dropClamp 15 = .ok (.iload_n 2, 1) := by decide +kernel
theorem dX5_dropClamp_16 : decode cX5_dropClamp 16 = .ok (.aload_n 0, 1) := by decide +kernel
theorem dX5_dropClamp_17 : decode cX5_dropClamp 17 = .ok (.getfield 21, 3) := by decide +kernel
theorem dX5_dropClamp_20 : decode cX5_dropClamp 20 = .ok (.iconst 1, 1) := by decide +kernel
theorem dX5_dropClamp_21 : decode cX5_dropClamp 21 = .ok (.isub, 1) := by decide +kernel
theorem dX5_dropClamp_22 : decode cX5_dropClamp 22 = .ok (.if_icmp .ge 37, 3) := by decide +kernel
theorem dX5_dropClamp_25 : decode cX5_dropClamp 25 = .ok (.aload_n 0, 1) := by decide +kernel
theorem dX5_dropClamp_26 : decode cX5_dropClamp 26 = .ok (.getfield 15, 3) := by decide +kernel
theorem dX5_dropClamp_29 : decode cX5_dropClamp 29 = .ok (.iload_n 2, 1) := by decide +kernel
theorem dX5_dropClamp_30 : decode cX5_dropClamp 30 = .ok (.aload_n 0, 1) := by decide +kernel
theorem dX5_dropClamp_31 : decode cX5_dropClamp 31 = .ok (.getfield 15, 3) := by decide +kernel
theorem dX5_dropClamp_34 : decode cX5_dropClamp 34 = .ok (.iload_n 2, 1) := by decide +kernel
theorem dX5_dropClamp_35 : decode cX5_dropClamp 35 = .ok (.iconst 1, 1) := by decide +kernel
theorem dX5_dropClamp_36 : decode cX5_dropClamp 36 = .ok (.iadd, 1) := by decide +kernel
theorem dX5_dropClamp_37 : decode cX5_dropClamp 37 = .ok (.iaload, 1) := by decide +kernel
theorem dX5_dropClamp_38 : decode cX5_dropClamp 38 = .ok (.iastore, 1) := by decide +kernel
theorem dX5_dropClamp_39 : decode cX5_dropClamp 39 = .ok (.aload_n 0, 1) := by decide +kernel
theorem dX5_dropClamp_40 : decode cX5_dropClamp 40 = .ok (.getfield 18, 3) := by decide +kernel
theorem dX5_dropClamp_43 : decode cX5_dropClamp 43 = .ok (.iload_n 2, 1) := by decide +kernel
theorem dX5_dropClamp_44 : decode cX5_dropClamp 44 = .ok (.aload_n 0, 1) := by decide +kernel
theorem dX5_dropClamp_45 : decode cX5_dropClamp 45 = .ok (.getfield 18, 3) := by decide +kernel
theorem dX5_dropClamp_48 : decode cX5_dropClamp 48 = .ok (.iload_n 2, 1) := by decide +kernel
theorem dX5_dropClamp_49 : decode cX5_dropClamp 49 = .ok (.iconst 1, 1) := by decide +kernel
theorem dX5_dropClamp_50 : decode cX5_dropClamp 50 = .ok (.iadd, 1) := by decide +kernel
theorem dX5_dropClamp_51 : decode cX5_dropClamp 51 = .ok (.iaload, 1) := by decide +kernel
theorem dX5_dropClamp_52 : decode cX5_dropClamp 52 = .ok (.iastore, 1) := by decide +kernel
theorem dX5_dropClamp_53 : decode cX5_dropClamp 53 = .ok (.iinc 2 1, 3) := by decide +kernel
theorem dX5_dropClamp_56 : decode cX5_dropClamp 56 = .ok (.goto (-41), 3) := by decide +kernel
theorem dX5_dropClamp_59 : decode cX5_dropClamp 59 = .ok (.aload_n 0, 1) := by decide +kernel
theorem dX5_dropClamp_60 : decode cX5_dropClamp 60 = .ok (.dup, 1) := by decide +kernel
theorem dX5_dropClamp_61 : decode cX5_dropClamp 61 = .ok (.getfield 21, 3) := by decide +kernel
theorem dX5_dropClamp_64 : decode cX5_dropClamp 64 = .ok (.iconst 1, 1) := by decide +kernel
theorem dX5_dropClamp_65 : decode cX5_dropClamp 65 = .ok (.isub, 1) := by decide +kernel
theorem dX5_dropClamp_66 : decode cX5_dropClamp 66 = .ok (.putfield 21, 3) := by decide +kernel
theorem dX5_dropClamp_69 : decode cX5_dropClamp 69 = .ok (.return_, 1) := by decide +kernel
set_option maxRecDepth 20000 in
theorem ggX6_init_X4_init : GoodIn wsX6_init wsX4_init := goodIn_r _ [14, 15, 2, 3, 16, 17, 18, 19, 20, 21, 22, 23, 24, 25, 30, 31, 32, 33, 34] (by decide +kernel) (by decide +kernel)
set_option maxRecDepth 20000 in
theorem gX6_init_X4_init : GoodIn wsX6_init (wsX4_init) := ggX6_init_X4_init
end
section
theorem dX6_init_0 : decode cX6_init 0 = .ok (.aload_n 0, 1) := by decide +kernel
theorem dX6_init_1 : decode cX6_init 1 = .ok (.invokespecial 3, 3) := by decide +kernel
theorem dX6_init_4 : decode cX6_init 4 = .ok (.aload_n 0, 1) := by decide +kernel
theorem dX6_init_5 : decode cX6_init 5 = .ok (.bipush 60, 2) := by decide +kernel
theorem dX6_init_7 : decode cX6_init 7 = .ok (.newarray .char, 2) := by decide +kernel
theorem dX6_init_9 : decode cX6_init 9 = .ok (.putfield 9, 3) := by decide +kernel
theorem dX6_init_12 : decode cX6_init 12 = .ok (.aload_n 0, 1) := by decide +kernel
theorem dX6_init_13 : decode cX6_init 13 = .ok (.iconst 0, 1) := by decide +kernel
theorem dX6_init_14 : decode cX6_init 14 = .ok (.putfield 15, 3) := by decide +kernel
theorem dX6_init_17 : decode cX6_init 17 = .ok (.aload_n 0, 1) := by decide +kernel
theorem dX6_init_18 : decode cX6_init 18 = .ok (.new 19, 3) := by decide +kernel
theorem dX6_init_21 : decode cX6_init 21 = .ok (.dup, 1) := by decide +kernel
theorem dX6_init_22 : decode cX6_init 22 = .ok (.bipush 60, 2) := by decide +kernel
theorem dX6_init_24 : decode cX6_init 24 = .ok (.invokespecial 21, 3) := by decide +kernel
theorem dX6_init_27 : decode cX6_init 27 = .ok (.putfield 24, 3) := by decide +kernel
theorem dX6_init_30 : decode cX6_init 30 = .ok (.aload_n 0, 1) := by decide +kernel
theorem dX6_init_31 : decode cX6_init 31 = .ok (.iconst 0, 1) := by decide +kernel
theorem dX6_init_32 : decode cX6_init 32 = .ok (.putfield 28, 3) := by decide +kernel
theorem dX6_init_35 : decode cX6_init 35 = .ok (.return_, 1) := by decide +kernel
theorem dX6_append_0 : decode cX6_append 0 = .ok (.aload_n 0, 1) := by decide +kernel
theorem dX6_append_1 : decode cX6_append 1 = .ok (.getfield 15, 3) := by decide +kernel
theorem dX6_append_4 : decode cX6_append 4 = .ok (.bipush 60, 2) := by decide +kernel
theorem dX6_append_6 : decode cX6_append 6 = .ok (.if_icmp .ge 23, 3) := by decide +kernel
theorem dX6_append_9 : decode cX6_append 9 = .ok (.aload_n 0, 1) := by decide +kernel
theorem dX6_append_10 : decode cX6_append 10 = .ok (.getfield 9, 3) := by decide +kernel
theorem dX6_append_13 : decode cX6_append 13 = .ok (.aload_n 0, 1) := by decide +kernel
theorem dX6_append_14 : decode cX6_append 14 = .ok (.getfield 15, 3) := by decide +kernel
theorem dX6_append_17 : decode cX6_append 17 = .ok (.iload_n 1, 1) := by decide +kernel
theorem dX6_append_18 : decode cX6_append 18 = .ok (.castore, 1) := by decide +kernel
theorem dX6_append_19 : decode cX6_append 19 = .ok (.aload_n 0, 1) := by decide +kernel
theorem dX6_append_20 : decode cX6_append 20 = .ok (.dup, 1) := by decide +kernel
theorem dX6_append_21 : decode cX6_append 21 = .ok (.getfield 15, 3) := by decide +kernel
theorem dX6_append_24 : decode cX6_append 24 = .ok (.iconst 1, 1) := by decide +kernel
theorem dX6_append_25 : decode cX6_append 25 = .ok (.iadd, 1) := by decide +kernel
theorem dX6_append_26 : decode cX6_append 26 = .ok (.putfield 15, 3) := by decide +kernel
theorem dX6_append_29 : decode cX6_append 29 = .ok (.return_, 1) := by decide +kernel
set_option maxRecDepth 20000 in
theorem ggX6_read_X6_readBowing : GoodIn wsX6_read wsX6_readBowing := goodIn_r _ [7, 1, 2, 8, 9, 10, 6, 11, 12, 13, 14, 15, 16, 17, 18, 19, 20, 21, 22, 23, 24, 25, 26, 27, 28, 29, 30, 31, 32, 33, 34, 35, 36, 37, 38, 39, 40, 41, 42] (by decide +kernel) (by decide +kernel)
set_option maxRecDepth 20000 in
theorem gX6_read_X6_readBowing : GoodIn wsX6_read (wsV RX6 34 RX6 yX6_readBowing wsX6_readBowing) := goodIn_app (goodIn_of _ (by decide +kernel)) ggX6_read_X6_readBowing
set_option maxRecDepth 20000 in
theorem ggX6_read_X6_next : GoodIn wsX6_read wsX6_next := goodIn_r _ [11, 1, 12, 13, 34, 35, 36, 37] (by decide +kernel) (by decide +kernel)
set_option maxRecDepth 20000 in
theorem gX6_read_X6_next : GoodIn wsX6_read (wsV RX6 38 RX6 yX6_next wsX6_next) := goodIn_app (goodIn_of _ (by decide +kernel)) ggX6_read_X6_next
theorem dX6_read_0 : decode cX6_read 0 = .ok (.aload_n 0, 1) := by decide +kernel
theorem dX6_read_1 : decode cX6_read 1 = .ok (.iconst 0, 1) := by decide +kernel
theorem dX6_read_2 : decode cX6_read 2 = .ok (.putfield 28, 3) := by decide +kernel
theorem dX6_read_5 : decode cX6_read 5 = .ok (.aload_n 0, 1) := by decide +kernel
theorem dX6_read_6 : decode cX6_read 6 = .ok (.getfield 24, 3) := by decide +kernel
theorem dX6_read_9 : decode cX6_read 9 = .ok (.iconst 0, 1) := by decide +kernel
theorem dX6_read_10 : decode cX6_read 10 = .ok (.putfield 31, 3) := by decide +kernel
theorem dX6_read_13 : decode cX6_read 13 = .ok (.iconst 0, 1) := by decide +kernel
theorem dX6_read_14 : decode cX6_read 14 = .ok (.istore_n 1, 1) := by decide +kernel
theorem dX6_read_15 : decode cX6_read 15 = .ok (.iload_n 1, 1) := by decide +kernel
theorem dX6_read_16 : decode cX6_read 16 = .ok (.bipush 60, 2) := by decide +kernel
theorem dX6_read_18 : decode cX6_read 18 = .ok (.if_icmp .ge 49, 3) := by decide +kernel
theorem dX6_read_21 : decode cX6_read 21 = .ok (.aload_n 0, 1) := by decide +kernel
theorem dX6_read_22 : decode cX6_read 22 = .ok (.invokevirtual 34, 3) := by decide +kernel
theorem dX6_read_25 : decode cX6_read 25 = .ok (.ifCond .ne 5, 3) := by decide +kernel
theorem dX6_read_28 : decode cX6_read 28 = .ok (.iconst 0, 1) := by decide +kernel
theorem dX6_read_29 : decode cX6_read 29 = .ok (.ireturn, 1) := by decide +kernel
theorem dX6_read_30 : decode cX6_read 30 = .ok (.aload_n 0, 1) := by decide +kernel
theorem dX6_read_31 : decode cX6_read 31 = .ok (.invokevirtual 38, 3) := by decide +kernel
theorem dX6_read_34 : decode cX6_read 34 = .ok (.iconst (-1), 1) := by decide +kernel
theorem dX6_read_35 : decode cX6_read 35 = .ok (.if_icmp .ne 5, 3) := by decide +kernel
theorem dX6_read_38 : decode cX6_read 38 = .ok (.iconst 1, 1) := by decide +kernel
theorem dX6_read_39 : decode cX6_read 39 = .ok (.ireturn, 1) := by decide +kernel
theorem dX6_read_40 : decode cX6_read 40 = .ok (.aload_n 0, 1) := by decide +kernel
theorem dX6_read_41 : decode cX6_read 41 = .ok (.invokevirtual 38, 3) := by decide +kernel
theorem dX6_read_44 : decode cX6_read 44 = .ok (.bipush 44, 2) := by decide +kernel
theorem dX6_read_46 : decode cX6_read 46 = .ok (.if_icmp .eq 5, 3) := by decide +kernel
theorem dX6_read_49 : decode cX6_read 49 = .ok (.iconst 0, 1) := by decide +kernel
theorem dX6_read_50 : decode cX6_read 50 = .ok (.ireturn, 1) := by decide +kernel
theorem dX6_read_51 : decode cX6_read 51 = .ok (.aload_n 0, 1) := by decide +kernel
theorem dX6_read_52 : decode cX6_read 52 = .ok (.dup, 1) := by decide +kernel
theorem dX6_read_53 : decode cX6_read 53 = .ok (.getfield 28, 3) := by decide +kernel
theorem dX6_read_56 : decode cX6_read 56 = .ok (.iconst 1, 1) := by decide +kernel
theorem dX6_read_57 : decode cX6_read 57 = .ok (.iadd, 1) := by decide +kernel
theorem dX6_read_58 : decode cX6_read 58 = .ok (.putfield 28, 3) := by decide +kernel
theorem dX6_read_61 : decode cX6_read 61 = .ok (.iinc 1 1, 3) := by decide +kernel
theorem dX6_read_64 : decode cX6_read 64 = .ok (.goto (-49), 3) := by decide +kernel
theorem dX6_read_67 : decode cX6_read 67 = .ok (.iconst 0, 1) := by decide +kernel
theorem dX6_read_68 : decode cX6_read 68 = .ok (.ireturn, 1) := by decide +kernel
theorem dX6_fault_0 : decode cX6_fault 0 = .ok (.aload_n 0, 1) := by decide +kernel
theorem dX6_fault_1 : decode cX6_fault 1 = .ok (.getfield 28, 3) := by decide +kernel
theorem dX6_fault_4 : decode cX6_fault 4 = .ok (.ireturn, 1) := by decide +kernel
theorem dX6_next_0 : decode cX6_next 0 = .ok (.aload_n 0, 1) := by decide +kernel
theorem dX6_next_1 : decode cX6_next 1 = .ok (.getfield 28, 3) := by decide +kernel
theorem dX6_next_4 : decode cX6_next 4 = .ok (.ifCond .lt 27, 3) := by decide +kernel
theorem dX6_next_7 : decode cX6_next 7 = .ok (.aload_n 0, 1) := by decide +kernel
theorem dX6_next_8 : decode cX6_next 8 = .ok (.getfield 28, 3) := by decide +kernel
theorem dX6_next_11 : decode cX6_next 11 = .ok (.aload_n 0, 1) := by decide +kernel
theorem dX6_next_12 : decode cX6_next 12 = .ok (.getfield 15, 3) := by decide +kernel
theorem dX6_next_15 : decode cX6_next 15 = .ok (.if_icmp .ge 16, 3) := by decide +kernel
theorem dX6_next_18 : decode cX6_next 18 = .ok (.aload_n 0, 1) := by decide +kernel
theorem dX6_next_19 : decode cX6_next 19 = .ok (.getfield 28, 3) := by decide +kernel
theorem dX6_next_22 : decode cX6_next 22 = .ok (.bipush 60, 2) := by decide +kernel
theorem dX6_next_24 : decode cX6_next 24 = .ok (.if_icmp .ge 7, 3) := by decide +kernel
theorem dX6_next_27 : decode cX6_next 27 = .ok (.iconst 1, 1) := by decide +kernel
theorem dX6_next_28 : decode cX6_next 28 = .ok (.goto 4, 3) := by decide +kernel
theorem dX6_next_31 : decode cX6_next 31 = .ok (.iconst 0, 1) := by decide +kernel
theorem dX6_next_32 : decode cX6_next 32 = .ok (.istore_n 1, 1) := by decide +kernel
theorem dX6_next_33 : decode cX6_next 33 = .ok (.iload_n 1, 1) := by decide +kernel
theorem dX6_next_34 : decode cX6_next 34 = .ok (.ifCond .eq 15, 3) := by decide +kernel
theorem dX6_next_37 : decode cX6_next 37 = .ok (.aload_n 0, 1) := by decide +kernel
theorem dX6_next_38 : decode cX6_next 38 = .ok (.getfield 9, 3) := by decide +kernel
theorem dX6_next_41 : decode cX6_next 41 = .ok (.aload_n 0, 1) := by decide +kernel
theorem dX6_next_42 : decode cX6_next 42 = .ok (.getfield 28, 3) := by decide +kernel
theorem dX6_next_45 : decode cX6_next 45 = .ok (.caload, 1) := by decide +kernel
theorem dX6_next_46 : decode cX6_next 46 = .ok (.goto 4, 3) := by decide +kernel
theorem dX6_next_49 : decode cX6_next 49 = .ok (.iconst (-1), 1) := by decide +kernel
theorem dX6_next_50 : decode cX6_next 50 = .ok (.ireturn, 1) := by decide +kernel
set_option maxRecDepth 20000 in
theorem ggX6_readBowing_X6_next : GoodIn wsX6_readBowing wsX6_next := goodIn_r _ [7, 1, 8, 9, 30, 31, 32, 33] (by decide +kernel) (by decide +kernel)
set_option maxRecDepth 20000 in
theorem gX6_readBowing_X6_next : GoodIn wsX6_readBowing (wsV RX6 38 RX6 yX6_next wsX6_next) := goodIn_app (goodIn_of _ (by decide +kernel)) ggX6_readBowing_X6_next
set_option maxRecDepth 20000 in
theorem ggX6_readBowing_X6_sideOf : GoodIn wsX6_readBowing wsX6_sideOf := goodIn_r _ [12] (by decide +kernel) (by decide +kernel)
set_option maxRecDepth 20000 in
theorem gX6_readBowing_X6_sideOf : GoodIn wsX6_readBowing (va_wsS RX6 42 yX6_sideOf wsX6_sideOf) := goodIn_app (goodIn_of _ (by decide +kernel)) ggX6_readBowing_X6_sideOf
set_option maxRecDepth 20000 in
theorem ggX6_readBowing_X6_readNumber : GoodIn wsX6_readBowing wsX6_readNumber := goodIn_r _ [16, 1, 3, 4, 5, 6, 7, 8, 9, 17, 18, 19, 30, 31, 32, 33] (by decide +kernel) (by decide +kernel)
set_option maxRecDepth 20000 in
theorem gX6_readBowing_X6_readNumber : GoodIn wsX6_readBowing (wsV RX6 46 RX6 yX6_readNumber wsX6_readNumber) := goodIn_app (goodIn_of _ (by decide +kernel)) ggX6_readBowing_X6_readNumber
set_option maxRecDepth 20000 in
theorem ggX6_readBowing_X4_append : GoodIn wsX6_readBowing wsX4_append := goodIn_r _ [24, 25, 26, 27, 28, 29, 34, 35, 36, 37, 38] (by decide +kernel) (by decide +kernel)
set_option maxRecDepth 20000 in
theorem gX6_readBowing_X4_append : GoodIn wsX6_readBowing (wsV RX6 50 RX4 yX4_append wsX4_append) := goodIn_app (goodIn_of _ (by decide +kernel)) ggX6_readBowing_X4_append
theorem dX6_readBowing_0 : decode cX6_readBowing 0 = .ok (.aload_n 0, 1) := by decide +kernel
theorem dX6_readBowing_1 : decode cX6_readBowing 1 = .ok (.invokevirtual 38, 3) := by decide +kernel
theorem dX6_readBowing_4 : decode cX6_readBowing 4 = .ok (.invokestatic 42, 3) := by decide +kernel
theorem dX6_readBowing_7 : decode cX6_readBowing 7 = .ok (.istore_n 1, 1) := by decide +kernel
theorem dX6_readBowing_8 : decode cX6_readBowing 8 = .ok (.iload_n 1, 1) := by decide +kernel
theorem dX6_readBowing_9 : decode cX6_readBowing 9 = .ok (.ifCond .ge 5, 3) := by decide +kernel
theorem dX6_readBowing_12 : decode cX6_readBowing 12 = .ok (.iconst 0, 1) := by decide +kernel
theorem dX6_readBowing_13 : decode cX6_readBowing 13 = .ok (.ireturn, 1) := by decide +kernel
theorem dX6_readBowing_14 : decode cX6_readBowing 14 = .ok (.aload_n 0, 1) := by decide +kernel
theorem dX6_readBowing_15 : decode cX6_readBowing 15 = .ok (.dup, 1) := by decide +kernel
theorem dX6_readBowing_16 : decode cX6_readBowing 16 = .ok (.getfield 28, 3) := by decide +kernel
theorem dX6_readBowing_19 : decode cX6_readBowing 19 = .ok (.iconst 1, 1) := by decide +kernel
theorem dX6_readBowing_20 : decode cX6_readBowing 20 = .ok (.iadd, 1) := by decide +kernel
theorem dX6_readBowing_21 : decode cX6_readBowing 21 = .ok (.putfield 28, 3) := by decide +kernel
theorem dX6_readBowing_24 : decode cX6_readBowing 24 = .ok (.aload_n 0, 1) := by decide +kernel
theorem dX6_readBowing_25 : decode cX6_readBowing 25 = .ok (.iconst 0, 1) := by decide +kernel
theorem dX6_readBowing_26 : decode cX6_readBowing 26 = .ok (.bipush 11, 2) := by decide +kernel
theorem dX6_readBowing_28 : decode cX6_readBowing 28 = .ok (.invokevirtual 46, 3) := by decide +kernel
theorem dX6_readBowing_31 : decode cX6_readBowing 31 = .ok (.istore_n 2, 1) := by decide +kernel
theorem dX6_readBowing_32 : decode cX6_readBowing 32 = .ok (.iload_n 2, 1) := by decide +kernel
theorem dX6_readBowing_33 : decode cX6_readBowing 33 = .ok (.iconst (-1), 1) := by decide +kernel
theorem dX6_readBowing_34 : decode cX6_readBowing 34 = .ok (.if_icmp .ne 5, 3) := by decide +kernel
theorem dX6_readBowing_37 : decode cX6_readBowing 37 = .ok (.iconst 0, 1) := by decide +kernel
theorem dX6_readBowing_38 : decode cX6_readBowing 38 = .ok (.ireturn, 1) := by decide +kernel
theorem dX6_readBowing_39 : decode cX6_readBowing 39 = .ok (.iconst 1, 1) := by decide +kernel
theorem dX6_readBowing_40 : decode cX6_readBowing 40 = .ok (.istore_n 3, 1) := by decide +kernel
theorem dX6_readBowing_41 : decode cX6_readBowing 41 = .ok (.aload_n 0, 1) := by decide +kernel
theorem dX6_readBowing_42 : decode cX6_readBowing 42 = .ok (.invokevirtual 38, 3) := by decide +kernel
theorem dX6_readBowing_45 : decode cX6_readBowing 45 = .ok (.bipush 120, 2) := by decide +kernel
theorem dX6_readBowing_47 : decode cX6_readBowing 47 = .ok (.if_icmp .ne 21, 3) := by decide +kernel
theorem dX6_readBowing_50 : decode cX6_readBowing 50 = .ok (.aload_n 0, 1) := by decide +kernel
theorem dX6_readBowing_51 : decode cX6_readBowing 51 = .ok (.dup, 1) := by decide +kernel
theorem dX6_readBowing_52 : decode cX6_readBowing 52 = .ok (.getfield 28, 3) := by decide +kernel
theorem dX6_readBowing_55 : decode cX6_readBowing 55 = .ok (.iconst 1, 1) := by decide +kernel
theorem dX6_readBowing_56 : decode cX6_readBowing 56 = .ok (.iadd, 1) := by decide +kernel
theorem dX6_readBowing_57 : decode cX6_readBowing 57 = .ok (.putfield 28, 3) := by decide +kernel
theorem dX6_readBowing_60 : decode cX6_readBowing 60 = .ok (.aload_n 0, 1) := by decide +kernel
theorem dX6_readBowing_61 : decode cX6_readBowing 61 = .ok (.iconst 1, 1) := by decide +kernel
theorem dX6_readBowing_62 : decode cX6_readBowing 62 = .ok (.bipush 20, 2) := by decide +kernel
theorem dX6_readBowing_64 : decode cX6_readBowing 64 = .ok (.invokevirtual 46, 3) := by decide +kernel
theorem dX6_readBowing_67 : decode cX6_readBowing 67 = .ok (.istore_n 3, 1) := by decide +kernel
theorem dX6_readBowing_68 : decode cX6_readBowing 68 = .ok (.iload_n 3, 1) := by decide +kernel
theorem dX6_readBowing_69 : decode cX6_readBowing 69 = .ok (.iconst (-1), 1) := by decide +kernel
theorem dX6_readBowing_70 : decode cX6_readBowing 70 = .ok (.if_icmp .ne 5, 3) := by decide +kernel
theorem dX6_readBowing_73 : decode cX6_readBowing 73 = .ok (.iconst 0, 1) := by decide +kernel
theorem dX6_readBowing_74 : decode cX6_readBowing 74 = .ok (.ireturn, 1) := by decide +kernel
theorem dX6_readBowing_75 : decode cX6_readBowing 75 = .ok (.aload_n 0, 1) := by decide +kernel
theorem dX6_readBowing_76 : decode cX6_readBowing 76 = .ok (.getfield 24, 3) := by decide +kernel
theorem dX6_readBowing_79 : decode cX6_readBowing 79 = .ok (.iload_n 1, 1) := by decide +kernel
theorem dX6_readBowing_80 : decode cX6_readBowing 80 = .ok (.iload_n 2, 1) := by decide +kernel
theorem dX6_readBowing_81 : decode cX6_readBowing 81 = .ok (.iload_n 3, 1) := by decide +kernel
theorem dX6_readBowing_82 : decode cX6_readBowing 82 = .ok (.invokevirtual 50, 3) := by decide +kernel
theorem dX6_readBowing_85 : decode cX6_readBowing 85 = .ok (.iconst 1, 1) := by decide +kernel
theorem dX6_readBowing_86 : decode cX6_readBowing 86 = .ok (.ireturn, 1) := by decide +kernel
theorem dX6_sideOf_0 : decode cX6_sideOf 0 = .ok (.iload_n 0, 1) := by decide +kernel
theorem dX6_sideOf_1 : decode cX6_sideOf 1 = .ok (.lookupswitch 51 #[(98, 47), (108, 49), (114, 45), (116, 43)], 43) := by decide +kernel
theorem dX6_sideOf_44 : decode cX6_sideOf 44 = .ok (.iconst 0, 1) := by decide +kernel
theorem dX6_sideOf_45 : decode cX6_sideOf 45 = .ok (.ireturn, 1) := by decide +kernel
theorem dX6_sideOf_46 : decode cX6_sideOf 46 = .ok (.iconst 1, 1) := by decide +kernel
theorem dX6_sideOf_47 : decode cX6_sideOf 47 = .ok (.ireturn, 1) := by decide +kernel
theorem dX6_sideOf_48 : decode cX6_sideOf 48 = .ok (.iconst 2, 1) := by decide +kernel
theorem dX6_sideOf_49 : decode cX6_sideOf 49 = .ok (.ireturn, 1) := by decide +kernel
theorem dX6_sideOf_50 : decode cX6_sideOf 50 = .ok (.iconst 3, 1) := by decide +kernel
theorem dX6_sideOf_51 : decode cX6_sideOf 51 = .ok (.ireturn, 1) := by decide +kernel
theorem dX6_sideOf_52 : decode cX6_sideOf 52 = .ok (.iconst (-1), 1) := by decide +kernel
theorem dX6_sideOf_53 : decode cX6_sideOf 53 = .ok (.ireturn, 1) := by decide +kernel
theorem dX6_digitOf_0 : decode cX6_digitOf 0 = .ok (.iload_n 0, 1) := by decide +kernel
theorem dX6_digitOf_1 : decode cX6_digitOf 1 = .ok (.bipush 48, 2) := by decide +kernel
theorem dX6_digitOf_3 : decode cX6_digitOf 3 = .ok (.if_icmp .lt 16, 3) := by decide +kernel
theorem dX6_digitOf_6 : decode cX6_digitOf 6 = .ok (.iload_n 0, 1) := by decide +kernel
theorem dX6_digitOf_7 : decode cX6_digitOf 7 = .ok (.bipush 57, 2) := by decide +kernel
theorem dX6_digitOf_9 : decode cX6_digitOf 9 = .ok (.if_icmp .gt 10, 3) := by decide +kernel
theorem dX6_digitOf_12 : decode cX6_digitOf 12 = .ok (.iload_n 0, 1) := by decide +kernel
theorem dX6_digitOf_13 : decode cX6_digitOf 13 = .ok (.bipush 48, 2) := by decide +kernel
theorem dX6_digitOf_15 : decode cX6_digitOf 15 = .ok (.isub, 1) := by decide +kernel
theorem dX6_digitOf_16 : decode cX6_digitOf 16 = .ok (.goto 4, 3) := by decide +kernel
theorem dX6_digitOf_19 : decode cX6_digitOf 19 = .ok (.iconst (-1), 1) := by decide +kernel
theorem dX6_digitOf_20 : decode cX6_digitOf 20 = .ok (.ireturn, 1) := by decide +kernel
set_option maxRecDepth 20000 in
theorem ggX6_readNumber_X6_next : GoodIn wsX6_readNumber wsX6_next := goodIn_r _ [6, 1, 7, 8, 12, 13, 14, 15] (by decide +kernel) (by decide +kernel)
set_option maxRecDepth 20000 in
theorem gX6_readNumber_X6_next : GoodIn wsX6_readNumber (wsV RX6 38 RX6 yX6_next wsX6_next) := goodIn_app (goodIn_of _ (by decide +kernel)) ggX6_readNumber_X6_next
set_option maxRecDepth 20000 in
theorem ggX6_readNumber_X6_digitOf : GoodIn wsX6_readNumber wsX6_digitOf := goodIn_r _ [11] (by decide +kernel) (by decide +kernel)
set_option maxRecDepth 20000 in
theorem gX6_readNumber_X6_digitOf : GoodIn wsX6_readNumber (va_wsS RX6 54 yX6_digitOf wsX6_digitOf) := goodIn_app (goodIn_of _ (by decide +kernel)) ggX6_readNumber_X6_digitOf
theorem dX6_readNumber_0 : decode cX6_readNumber 0 = .ok (.aload_n 0, 1) := by decide +kernel
theorem dX6_readNumber_1 : decode cX6_readNumber 1 = .ok (.invokevirtual 38, 3) := by decide +kernel
theorem dX6_readNumber_4 : decode cX6_readNumber 4 = .ok (.invokestatic 54, 3) := by decide +kernel
theorem dX6_readNumber_7 : decode cX6_readNumber 7 = .ok (.istore_n 3, 1) := by decide +kernel
theorem dX6_readNumber_8 : decode cX6_readNumber 8 = .ok (.iload_n 3, 1) := by decide +kernel
theorem dX6_readNumber_9 : decode cX6_readNumber 9 = .ok (.iconst (-1), 1) := by decide +kernel
theorem dX6_readNumber_10 : decode cX6_readNumber 10 = .ok (.if_icmp .eq 8, 3) := by decide +kernel
theorem dX6_readNumber_13 : decode cX6_readNumber 13 = .ok (.iload_n 3, 1) := by decide +kernel
theorem dX6_readNumber_14 : decode cX6_readNumber 14 = .ok (.iload_n 1, 1) := by decide +kernel
theorem dX6_readNumber_15 : decode cX6_readNumber 15 = .ok (.if_icmp .ge 5, 3) := by decide +kernel
theorem dX6_readNumber_18 : decode cX6_readNumber 18 = .ok (.iconst (-1), 1) := by decide +kernel
theorem dX6_readNumber_19 : decode cX6_readNumber 19 = .ok (.ireturn, 1) := by decide +kernel
theorem dX6_readNumber_20 : decode cX6_readNumber 20 = .ok (.aload_n 0, 1) := by decide +kernel
theorem dX6_readNumber_21 : decode cX6_readNumber 21 = .ok (.dup, 1) := by decide +kernel
theorem dX6_readNumber_22 : decode cX6_readNumber 22 = .ok (.getfield 28, 3) := by decide +kernel
theorem dX6_readNumber_25 : decode cX6_readNumber 25 = .ok (.iconst 1, 1) := by decide +kernel
theorem dX6_readNumber_26 : decode cX6_readNumber 26 = .ok (.iadd, 1) := by decide +kernel
theorem dX6_readNumber_27 : decode cX6_readNumber 27 = .ok (.putfield 28, 3) := by decide +kernel
theorem dX6_readNumber_30 : decode cX6_readNumber 30 = .ok (.iconst 1, 1) := by decide +kernel
theorem dX6_readNumber_31 : decode cX6_readNumber 31 = .ok (.istore 4, 2) := by decide +kernel
theorem dX6_readNumber_33 : decode cX6_readNumber 33 = .ok (.iload 4, 2) := by decide +kernel
theorem dX6_readNumber_35 : decode cX6_readNumber 35 = .ok (.bipush 60, 2) := by decide +kernel
theorem dX6_readNumber_37 : decode cX6_readNumber 37 = .ok (.if_icmp .ge 59, 3) := by decide +kernel
theorem dX6_readNumber_40 : decode cX6_readNumber 40 = .ok (.iload_n 3, 1) := by decide +kernel
theorem dX6_readNumber_41 : decode cX6_readNumber 41 = .ok (.ifCond .le 55, 3) := by decide +kernel
theorem dX6_readNumber_44 : decode cX6_readNumber 44 = .ok (.aload_n 0, 1) := by decide +kernel
theorem dX6_readNumber_45 : decode cX6_readNumber 45 = .ok (.invokevirtual 38, 3) := by decide +kernel
theorem dX6_readNumber_48 : decode cX6_readNumber 48 = .ok (.invokestatic 54, 3) := by decide +kernel
theorem dX6_readNumber_51 : decode cX6_readNumber 51 = .ok (.istore 5, 2) := by decide +kernel
theorem dX6_readNumber_53 : decode cX6_readNumber 53 = .ok (.iload 5, 2) := by decide +kernel
theorem dX6_readNumber_55 : decode cX6_readNumber 55 = .ok (.iconst (-1), 1) := by decide +kernel
theorem dX6_readNumber_56 : decode cX6_readNumber 56 = .ok (.if_icmp .eq 14, 3) := by decide +kernel
theorem dX6_readNumber_59 : decode cX6_readNumber 59 = .ok (.iload_n 3, 1) := by decide +kernel
theorem dX6_readNumber_60 : decode cX6_readNumber 60 = .ok (.bipush 10, 2) := by decide +kernel
theorem dX6_readNumber_62 : decode cX6_readNumber 62 = .ok (.imul, 1) := by decide +kernel
theorem dX6_readNumber_63 : decode cX6_readNumber 63 = .ok (.iload 5, 2) := by decide +kernel
theorem dX6_readNumber_65 : decode cX6_readNumber 65 = .ok (.iadd, 1) := by decide +kernel
theorem dX6_readNumber_66 : decode cX6_readNumber 66 = .ok (.iload_n 2, 1) := by decide +kernel
theorem dX6_readNumber_67 : decode cX6_readNumber 67 = .ok (.if_icmp .le 5, 3) := by decide +kernel
theorem dX6_readNumber_70 : decode cX6_readNumber 70 = .ok (.iload_n 3, 1) := by decide +kernel
theorem dX6_readNumber_71 : decode cX6_readNumber 71 = .ok (.ireturn, 1) := by decide +kernel
theorem dX6_readNumber_72 : decode cX6_readNumber 72 = .ok (.iload_n 3, 1) := by decide +kernel
theorem dX6_readNumber_73 : decode cX6_readNumber 73 = .ok (.bipush 10, 2) := by decide +kernel
theorem dX6_readNumber_75 : decode cX6_readNumber 75 = .ok (.imul, 1) := by decide +kernel
theorem dX6_readNumber_76 : decode cX6_readNumber 76 = .ok (.iload 5, 2) := by decide +kernel
theorem dX6_readNumber_78 : decode cX6_readNumber 78 = .ok (.iadd, 1) := by decide +kernel
theorem dX6_readNumber_79 : decode cX6_readNumber 79 = .ok (.istore_n 3, 1) := by decide +kernel
theorem dX6_readNumber_80 : decode cX6_readNumber 80 = .ok (.aload_n 0, 1) := by decide +kernel
theorem dX6_readNumber_81 : decode cX6_readNumber 81 = .ok (.dup, 1) := by decide +kernel
theorem dX6_readNumber_82 : decode cX6_readNumber 82 = .ok (.getfield 28, 3) := by decide +kernel
theorem dX6_readNumber_85 : decode cX6_readNumber 85 = .ok (.iconst 1, 1) := by decide +kernel
theorem dX6_readNumber_86 : decode cX6_readNumber 86 = .ok (.iadd, 1) := by decide +kernel
theorem dX6_readNumber_87 : decode cX6_readNumber 87 = .ok (.putfield 28, 3) := by decide +kernel
theorem dX6_readNumber_90 : decode cX6_readNumber 90 = .ok (.iinc 4 1, 3) := by decide +kernel
theorem dX6_readNumber_93 : decode cX6_readNumber 93 = .ok (.goto (-60), 3) := by decide +kernel
theorem dX6_readNumber_96 : decode cX6_readNumber 96 = .ok (.iload_n 3, 1) := by decide +kernel
theorem dX6_readNumber_97 : decode cX6_readNumber 97 = .ok (.ireturn, 1) := by decide +kernel
set_option maxRecDepth 20000 in
theorem ggX7_init_X7_waveHeight : GoodIn wsX7_init wsX7_waveHeight := goodIn_r _ [13] (by decide +kernel) (by decide +kernel)
set_option maxRecDepth 20000 in
theorem gX7_init_X7_waveHeight : GoodIn wsX7_init (va_wsS RX7 28 yX7_waveHeight wsX7_waveHeight) := goodIn_app (goodIn_of _ (by decide +kernel)) ggX7_init_X7_waveHeight
set_option maxRecDepth 20000 in
theorem ggX7_init_X7_listWaysOf : GoodIn wsX7_init wsX7_listWaysOf := goodIn_r _ [17, 9, 5, 6, 7, 18, 19, 20, 21, 22] (by decide +kernel) (by decide +kernel)
set_option maxRecDepth 20000 in
theorem gX7_init_X7_listWaysOf : GoodIn wsX7_init (wsV RX7 32 RX7 yX7_listWaysOf wsX7_listWaysOf) := goodIn_app (goodIn_of _ (by decide +kernel)) ggX7_init_X7_listWaysOf
theorem dX7_init_0 : decode cX7_init 0 = .ok (.aload_n 0, 1) := by decide +kernel
theorem dX7_init_1 : decode cX7_init 1 = .ok (.invokespecial 3, 3) := by decide +kernel
theorem dX7_init_4 : decode cX7_init 4 = .ok (.aload_n 0, 1) := by decide +kernel
theorem dX7_init_5 : decode cX7_init 5 = .ok (.bipush 48, 2) := by decide +kernel
theorem dX7_init_7 : decode cX7_init 7 = .ok (.newarray .int, 2) := by decide +kernel
theorem dX7_init_9 : decode cX7_init 9 = .ok (.putfield 9, 3) := by decide +kernel
theorem dX7_init_12 : decode cX7_init 12 = .ok (.aload_n 0, 1) := by decide +kernel
theorem dX7_init_13 : decode cX7_init 13 = .ok (.bipush 48, 2) := by decide +kernel
theorem dX7_init_15 : decode cX7_init 15 = .ok (.newarray .int, 2) := by decide +kernel
theorem dX7_init_17 : decode cX7_init 17 = .ok (.putfield 15, 3) := by decide +kernel
theorem dX7_init_20 : decode cX7_init 20 = .ok (.aload_n 0, 1) := by decide +kernel
theorem dX7_init_21 : decode cX7_init 21 = .ok (.bipush 48, 2) := by decide +kernel
theorem dX7_init_23 : decode cX7_init 23 = .ok (.newarray .int, 2) := by decide +kernel
theorem dX7_init_25 : decode cX7_init 25 = .ok (.putfield 18, 3) := by decide +kernel
theorem dX7_init_28 : decode cX7_init 28 = .ok (.aload_n 0, 1) := by decide +kernel
theorem dX7_init_29 : decode cX7_init 29 = .ok (.bipush 84, 2) := by decide +kernel
theorem dX7_init_31 : decode cX7_init 31 = .ok (.newarray .int, 2) := by decide +kernel
theorem dX7_init_33 : decode cX7_init 33 = .ok (.putfield 21, 3) := by decide +kernel
theorem dX7_init_36 : decode cX7_init 36 = .ok (.aload_n 0, 1) := by decide +kernel
theorem dX7_init_37 : decode cX7_init 37 = .ok (.iconst 0, 1) := by decide +kernel
theorem dX7_init_38 : decode cX7_init 38 = .ok (.putfield 24, 3) := by decide +kernel
theorem dX7_init_41 : decode cX7_init 41 = .ok (.iconst 0, 1) := by decide +kernel
theorem dX7_init_42 : decode cX7_init 42 = .ok (.istore_n 1, 1) := by decide +kernel
theorem dX7_init_43 : decode cX7_init 43 = .ok (.iload_n 1, 1) := by decide +kernel
theorem dX7_init_44 : decode cX7_init 44 = .ok (.bipush 7, 2) := by decide +kernel
theorem dX7_init_46 : decode cX7_init 46 = .ok (.if_icmp .ge 39, 3) := by decide +kernel
theorem dX7_init_49 : decode cX7_init 49 = .ok (.iconst 0, 1) := by decide +kernel
theorem dX7_init_50 : decode cX7_init 50 = .ok (.istore_n 2, 1) := by decide +kernel
theorem dX7_init_51 : decode cX7_init 51 = .ok (.iload_n 2, 1) := by decide +kernel
theorem dX7_init_52 : decode cX7_init 52 = .ok (.bipush 12, 2) := by decide +kernel
theorem dX7_init_54 : decode cX7_init 54 = .ok (.if_icmp .ge 25, 3) := by decide +kernel
theorem dX7_init_57 : decode cX7_init 57 = .ok (.aload_n 0, 1) := by decide +kernel
theorem dX7_init_58 : decode cX7_init 58 = .ok (.getfield 21, 3) := by decide +kernel
theorem dX7_init_61 : decode cX7_init 61 = .ok (.iload_n 1, 1) := by decide +kernel
theorem dX7_init_62 : decode cX7_init 62 = .ok (.bipush 12, 2) := by decide +kernel
theorem dX7_init_64 : decode cX7_init 64 = .ok (.imul, 1) := by decide +kernel
theorem dX7_init_65 : decode cX7_init 65 = .ok (.iload_n 2, 1) := by decide +kernel
theorem dX7_init_66 : decode cX7_init 66 = .ok (.iadd, 1) := by decide +kernel
theorem dX7_init_67 : decode cX7_init 67 = .ok (.iload_n 1, 1) := by decide +kernel
theorem dX7_init_68 : decode cX7_init 68 = .ok (.iload_n 2, 1) := by decide +kernel
theorem dX7_init_69 : decode cX7_init 69 = .ok (.invokestatic 28, 3) := by decide +kernel
theorem dX7_init_72 : decode cX7_init 72 = .ok (.iastore, 1) := by decide +kernel
theorem dX7_init_73 : decode cX7_init 73 = .ok (.iinc 2 1, 3) := by decide +kernel
theorem dX7_init_76 : decode cX7_init 76 = .ok (.goto (-25), 3) := by decide +kernel
theorem dX7_init_79 : decode cX7_init 79 = .ok (.iinc 1 1, 3) := by decide +kernel
theorem dX7_init_82 : decode cX7_init 82 = .ok (.goto (-39), 3) := by decide +kernel
theorem dX7_init_85 : decode cX7_init 85 = .ok (.bipush 72, 2) := by decide +kernel
theorem dX7_init_87 : decode cX7_init 87 = .ok (.istore_n 1, 1) := by decide +kernel
theorem dX7_init_88 : decode cX7_init 88 = .ok (.iconst 1, 1) := by decide +kernel
theorem dX7_init_89 : decode cX7_init 89 = .ok (.istore_n 2, 1) := by decide +kernel
theorem dX7_init_90 : decode cX7_init 90 = .ok (.iload_n 2, 1) := by decide +kernel
theorem dX7_init_91 : decode cX7_init 91 = .ok (.iload_n 1, 1) := by decide +kernel
theorem dX7_init_92 : decode cX7_init 92 = .ok (.if_icmp .gt 21, 3) := by decide +kernel
theorem dX7_init_95 : decode cX7_init 95 = .ok (.aload_n 0, 1) := by decide +kernel
theorem dX7_init_96 : decode cX7_init 96 = .ok (.iload_n 2, 1) := by decide +kernel
theorem dX7_init_97 : decode cX7_init 97 = .ok (.iconst 0, 1) := by decide +kernel
theorem dX7_init_98 : decode cX7_init 98 = .ok (.invokevirtual 32, 3) := by decide +kernel
theorem dX7_init_101 : decode cX7_init 101 = .ok (.aload_n 0, 1) := by decide +kernel
theorem dX7_init_102 : decode cX7_init 102 = .ok (.iload_n 2, 1) := by decide +kernel
theorem dX7_init_103 : decode cX7_init 103 = .ok (.iconst 1, 1) := by decide +kernel
theorem dX7_init_104 : decode cX7_init 104 = .ok (.invokevirtual 32, 3) := by decide +kernel
theorem dX7_init_107 : decode cX7_init 107 = .ok (.iinc 2 1, 3) := by decide +kernel
theorem dX7_init_110 : decode cX7_init 110 = .ok (.goto (-20), 3) := by decide +kernel
theorem dX7_init_113 : decode cX7_init 113 = .ok (.return_, 1) := by decide +kernel
theorem dX7_waveHeight_0 : decode cX7_waveHeight 0 = .ok (.sipush 200, 3) := by decide +kernel
theorem dX7_waveHeight_3 : decode cX7_waveHeight 3 = .ok (.iload_n 0, 1) := by decide +kernel
theorem dX7_waveHeight_4 : decode cX7_waveHeight 4 = .ok (.imul, 1) := by decide +kernel
theorem dX7_waveHeight_5 : decode cX7_waveHeight 5 = .ok (.iload_n 1, 1) := by decide +kernel
theorem dX7_waveHeight_6 : decode cX7_waveHeight 6 = .ok (.imul, 1) := by decide +kernel
theorem dX7_waveHeight_7 : decode cX7_waveHeight 7 = .ok (.bipush 11, 2) := by decide +kernel
theorem dX7_waveHeight_9 : decode cX7_waveHeight 9 = .ok (.idiv, 1) := by decide +kernel
theorem dX7_waveHeight_10 : decode cX7_waveHeight 10 = .ok (.sipush 400, 3) := by decide +kernel
theorem dX7_waveHeight_13 : decode cX7_waveHeight 13 = .ok (.irem, 1) := by decide +kernel
theorem dX7_waveHeight_14 : decode cX7_waveHeight 14 = .ok (.istore_n 2, 1) := by decide +kernel
theorem dX7_waveHeight_15 : decode cX7_waveHeight 15 = .ok (.iload_n 2, 1) := by decide +kernel
theorem dX7_waveHeight_16 : decode cX7_waveHeight 16 = .ok (.sipush 200, 3) := by decide +kernel
theorem dX7_waveHeight_19 : decode cX7_waveHeight 19 = .ok (.if_icmp .gt 10, 3) := by decide +kernel
theorem dX7_waveHeight_22 : decode cX7_waveHeight 22 = .ok (.bipush 100, 2) := by decide +kernel
theorem dX7_waveHeight_24 : decode cX7_waveHeight 24 = .ok (.iload_n 2, 1) := by decide +kernel
theorem dX7_waveHeight_25 : decode cX7_waveHeight 25 = .ok (.isub, 1) := by decide +kernel
theorem dX7_waveHeight_26 : decode cX7_waveHeight 26 = .ok (.goto 8, 3) := by decide +kernel
theorem dX7_waveHeight_29 : decode cX7_waveHeight 29 = .ok (.iload_n 2, 1) := by decide +kernel
theorem dX7_waveHeight_30 : decode cX7_waveHeight 30 = .ok (.sipush 300, 3) := by decide +kernel
theorem dX7_waveHeight_33 : decode cX7_waveHeight 33 = .ok (.isub, 1) := by decide +kernel
theorem dX7_waveHeight_34 : decode cX7_waveHeight 34 = .ok (.ireturn, 1) := by decide +kernel
theorem dX7_listWaysOf_0 : decode cX7_listWaysOf 0 = .ok (.iconst 0, 1) := by decide +kernel
theorem dX7_listWaysOf_1 : decode cX7_listWaysOf 1 = .ok (.istore_n 3, 1) := by decide +kernel
theorem dX7_listWaysOf_2 : decode cX7_listWaysOf 2 = .ok (.iload_n 3, 1) := by decide +kernel
theorem dX7_listWaysOf_3 : decode cX7_listWaysOf 3 = .ok (.bipush 7, 2) := by decide +kernel
theorem dX7_listWaysOf_5 : decode cX7_listWaysOf 5 = .ok (.if_icmp .ge 90, 3) := by decide +kernel
theorem dX7_listWaysOf_8 : decode cX7_listWaysOf 8 = .ok (.iload_n 3, 1) := by decide +kernel
theorem dX7_listWaysOf_9 : decode cX7_listWaysOf 9 = .ok (.iload_n 2, 1) := by decide +kernel
theorem dX7_listWaysOf_10 : decode cX7_listWaysOf 10 = .ok (.iadd, 1) := by decide +kernel
theorem dX7_listWaysOf_11 : decode cX7_listWaysOf 11 = .ok (.istore 4, 2) := by decide +kernel
theorem dX7_listWaysOf_13 : decode cX7_listWaysOf 13 = .ok (.iload 4, 2) := by decide +kernel
theorem dX7_listWaysOf_15 : decode cX7_listWaysOf 15 = .ok (.bipush 7, 2) := by decide +kernel
theorem dX7_listWaysOf_17 : decode cX7_listWaysOf 17 = .ok (.if_icmp .ge 72, 3) := by decide +kernel
theorem dX7_listWaysOf_20 : decode cX7_listWaysOf 20 = .ok (.iload_n 3, 1) := by decide +kernel
theorem dX7_listWaysOf_21 : decode cX7_listWaysOf 21 = .ok (.iload_n 3, 1) := by decide +kernel
theorem dX7_listWaysOf_22 : decode cX7_listWaysOf 22 = .ok (.imul, 1) := by decide +kernel
theorem dX7_listWaysOf_23 : decode cX7_listWaysOf 23 = .ok (.iload 4, 2) := by decide +kernel
theorem dX7_listWaysOf_25 : decode cX7_listWaysOf 25 = .ok (.iload 4, 2) := by decide +kernel
theorem dX7_listWaysOf_27 : decode cX7_listWaysOf 27 = .ok (.imul, 1) := by decide +kernel
theorem dX7_listWaysOf_28 : decode cX7_listWaysOf 28 = .ok (.iadd, 1) := by decide +kernel
theorem dX7_listWaysOf_29 : decode cX7_listWaysOf 29 = .ok (.iload_n 1, 1) := by decide +kernel
theorem dX7_listWaysOf_30 : decode cX7_listWaysOf 30 = .ok (.if_icmp .ne 53, 3) := by decide +kernel
theorem dX7_listWaysOf_33 : decode cX7_listWaysOf 33 = .ok (.aload_n 0, 1) := by decide +kernel
theorem dX7_listWaysOf_34 : decode cX7_listWaysOf 34 = .ok (.getfield 24, 3) := by decide +kernel
theorem dX7_listWaysOf_37 : decode cX7_listWaysOf 37 = .ok (.bipush 48, 2) := by decide +kernel
theorem dX7_listWaysOf_39 : decode cX7_listWaysOf 39 = .ok (.if_icmp .ge 44, 3) := by decide +kernel
theorem dX7_listWaysOf_42 : decode cX7_listWaysOf 42 = .ok (.aload_n 0, 1) := by decide +kernel
theorem dX7_listWaysOf_43 : decode cX7_listWaysOf 43 = .ok (.getfield 9, 3) := by decide +kernel
theorem dX7_listWaysOf_46 : decode cX7_listWaysOf 46 = .ok (.aload_n 0, 1) := by decide +kernel
theorem dX7_listWaysOf_47 : decode cX7_listWaysOf 47 = .ok (.getfield 24, 3) := by decide +kernel
theorem dX7_listWaysOf_50 : decode cX7_listWaysOf 50 = .ok (.iload_n 3, 1) := by decide +kernel
theorem dX7_listWaysOf_51 : decode cX7_listWaysOf 51 = .ok (.iastore, 1) := by decide +kernel
theorem dX7_listWaysOf_52 : decode cX7_listWaysOf 52 = .ok (.aload_n 0, 1) := by decide +kernel
theorem dX7_listWaysOf_53 : decode cX7_listWaysOf 53 = .ok (.getfield 15, 3) := by decide +kernel
theorem dX7_listWaysOf_56 : decode cX7_listWaysOf 56 = .ok (.aload_n 0, 1) := by decide +kernel
theorem dX7_listWaysOf_57 : decode cX7_listWaysOf 57 = .ok (.getfield 24, 3) := by decide +kernel
theorem dX7_listWaysOf_60 : decode cX7_listWaysOf 60 = .ok (.iload 4, 2) := by decide +kernel
theorem dX7_listWaysOf_62 : decode cX7_listWaysOf 62 = .ok (.iastore, 1) := by decide +kernel
theorem dX7_listWaysOf_63 : decode cX7_listWaysOf 63 = .ok (.aload_n 0, 1) := by decide +kernel
theorem dX7_listWaysOf_64 : decode cX7_listWaysOf 64 = .ok (.getfield 18, 3) := by decide +kernel
theorem dX7_listWaysOf_67 : decode cX7_listWaysOf 67 = .ok (.aload_n 0, 1) := by decide +kernel
theorem dX7_listWaysOf_68 : decode cX7_listWaysOf 68 = .ok (.getfield 24, 3) := by decide +kernel
theorem dX7_listWaysOf_71 : decode cX7_listWaysOf 71 = .ok (.iload_n 2, 1) := by decide +kernel
theorem dX7_listWaysOf_72 : decode cX7_listWaysOf 72 = .ok (.iastore, 1) := by decide +kernel
theorem dX7_listWaysOf_73 : decode cX7_listWaysOf 73 = .ok (.aload_n 0, 1) := by decide +kernel
theorem dX7_listWaysOf_74 : decode cX7_listWaysOf 74 = .ok (.dup, 1) := by decide +kernel
theorem dX7_listWaysOf_75 : decode cX7_listWaysOf 75 = .ok (.getfield 24, 3) := by decide +kernel
theorem dX7_listWaysOf_78 : decode cX7_listWaysOf 78 = .ok (.iconst 1, 1) := by decide +kernel
theorem dX7_listWaysOf_79 : decode cX7_listWaysOf 79 = .ok (.iadd, 1) := by decide +kernel
theorem dX7_listWaysOf_80 : decode cX7_listWaysOf 80 = .ok (.putfield 24, 3) := by decide +kernel
theorem dX7_listWaysOf_83 : decode cX7_listWaysOf 83 = .ok (.iinc 4 1, 3) := by decide +kernel
theorem dX7_listWaysOf_86 : decode cX7_listWaysOf 86 = .ok (.goto (-73), 3) := by decide +kernel
theorem dX7_listWaysOf_89 : decode cX7_listWaysOf 89 = .ok (.iinc 3 1, 3) := by decide +kernel
theorem dX7_listWaysOf_92 : decode cX7_listWaysOf 92 = .ok (.goto (-90), 3) := by decide +kernel
theorem dX7_listWaysOf_95 : decode cX7_listWaysOf 95 = .ok (.return_, 1) := by decide +kernel
set_option maxRecDepth 20000 in
theorem ggX7_noteOf_X8_isWay : GoodIn wsX7_noteOf wsX8_isWay := goodIn_r _ [6] (by decide +kernel) (by decide +kernel)
set_option maxRecDepth 20000 in
theorem gX7_noteOf_X8_isWay_n36 : GoodIn wsX7_noteOf (wsX8_isWay) := ggX7_noteOf_X8_isWay
theorem dX7_noteOf_0 : decode cX7_noteOf 0 = .ok (.iload_n 1, 1) := by decide +kernel
theorem dX7_noteOf_1 : decode cX7_noteOf 1 = .ok (.invokestatic 36, 3) := by decide +kernel
theorem dX7_noteOf_4 : decode cX7_noteOf 4 = .ok (.ifCond .ne 5, 3) := by decide +kernel
theorem dX7_noteOf_7 : decode cX7_noteOf 7 = .ok (.iconst 0, 1) := by decide +kernel
theorem dX7_noteOf_8 : decode cX7_noteOf 8 = .ok (.ireturn, 1) := by decide +kernel
theorem dX7_noteOf_9 : decode cX7_noteOf 9 = .ok (.bipush 10, 2) := by decide +kernel
theorem dX7_noteOf_11 : decode cX7_noteOf 11 = .ok (.aload_n 0, 1) := by decide +kernel
theorem dX7_noteOf_12 : decode cX7_noteOf 12 = .ok (.getfield 9, 3) := by decide +kernel
theorem dX7_noteOf_15 : decode cX7_noteOf 15 = .ok (.iload_n 1, 1) := by decide +kernel
theorem dX7_noteOf_16 : decode cX7_noteOf 16 = .ok (.iaload, 1) := by decide +kernel
theorem dX7_noteOf_17 : decode cX7_noteOf 17 = .ok (.aload_n 0, 1) := by decide +kernel
theorem dX7_noteOf_18 : decode cX7_noteOf 18 = .ok (.getfield 9, 3) := by decide +kernel
theorem dX7_noteOf_21 : decode cX7_noteOf 21 = .ok (.iload_n 1, 1) := by decide +kernel
theorem dX7_noteOf_22 : decode cX7_noteOf 22 = .ok (.iaload, 1) := by decide +kernel
theorem dX7_noteOf_23 : decode cX7_noteOf 23 = .ok (.imul, 1) := by decide +kernel
theorem dX7_noteOf_24 : decode cX7_noteOf 24 = .ok (.aload_n 0, 1) := by decide +kernel
theorem dX7_noteOf_25 : decode cX7_noteOf 25 = .ok (.getfield 15, 3) := by decide +kernel
theorem dX7_noteOf_28 : decode cX7_noteOf 28 = .ok (.iload_n 1, 1) := by decide +kernel
theorem dX7_noteOf_29 : decode cX7_noteOf 29 = .ok (.iaload, 1) := by decide +kernel
theorem dX7_noteOf_30 : decode cX7_noteOf 30 = .ok (.aload_n 0, 1) := by decide +kernel
theorem dX7_noteOf_31 : decode cX7_noteOf 31 = .ok (.getfield 15, 3) := by decide +kernel
theorem dX7_noteOf_34 : decode cX7_noteOf 34 = .ok (.iload_n 1, 1) := by decide +kernel
theorem dX7_noteOf_35 : decode cX7_noteOf 35 = .ok (.iaload, 1) := by decide +kernel
theorem dX7_noteOf_36 : decode cX7_noteOf 36 = .ok (.imul, 1) := by decide +kernel
theorem dX7_noteOf_37 : decode cX7_noteOf 37 = .ok (.iadd, 1) := by decide +kernel
theorem dX7_noteOf_38 : decode cX7_noteOf 38 = .ok (.imul, 1) := by decide +kernel
theorem dX7_noteOf_39 : decode cX7_noteOf 39 = .ok (.aload_n 0, 1) := by decide +kernel
theorem dX7_noteOf_40 : decode cX7_noteOf 40 = .ok (.getfield 18, 3) := by decide +kernel
theorem dX7_noteOf_43 : decode cX7_noteOf 43 = .ok (.iload_n 1, 1) := by decide +kernel
theorem dX7_noteOf_44 : decode cX7_noteOf 44 = .ok (.iaload, 1) := by decide +kernel
theorem dX7_noteOf_45 : decode cX7_noteOf 45 = .ok (.iadd, 1) := by decide +kernel
theorem dX7_noteOf_46 : decode cX7_noteOf 46 = .ok (.ireturn, 1) := by decide +kernel
set_option maxRecDepth 20000 in
theorem ggX7_swingAt_X8_isWay : GoodIn wsX7_swingAt wsX8_isWay := goodIn_r _ [11] (by decide +kernel) (by decide +kernel)
set_option maxRecDepth 20000 in
theorem gX7_swingAt_X8_isWay_n36 : GoodIn wsX7_swingAt (wsX8_isWay) := ggX7_swingAt_X8_isWay
set_option maxRecDepth 20000 in
theorem ggX7_swingAt_X8_isPlace : GoodIn wsX7_swingAt wsX8_isPlace := goodIn_r _ [13] (by decide +kernel) (by decide +kernel)
set_option maxRecDepth 20000 in
theorem gX7_swingAt_X8_isPlace_n40 : GoodIn wsX7_swingAt (wsX8_isPlace) := ggX7_swingAt_X8_isPlace
theorem dX7_swingAt_0 : decode cX7_swingAt 0 = .ok (.iload_n 1, 1) := by decide +kernel
theorem dX7_swingAt_1 : decode cX7_swingAt 1 = .ok (.invokestatic 36, 3) := by decide +kernel
theorem dX7_swingAt_4 : decode cX7_swingAt 4 = .ok (.ifCond .eq 11, 3) := by decide +kernel
theorem dX7_swingAt_7 : decode cX7_swingAt 7 = .ok (.iload_n 2, 1) := by decide +kernel
theorem dX7_swingAt_8 : decode cX7_swingAt 8 = .ok (.iload_n 3, 1) := by decide +kernel
theorem dX7_swingAt_9 : decode cX7_swingAt 9 = .ok (.invokestatic 40, 3) := by decide +kernel
theorem dX7_swingAt_12 : decode cX7_swingAt 12 = .ok (.ifCond .ne 5, 3) := by decide +kernel
theorem dX7_swingAt_15 : decode cX7_swingAt 15 = .ok (.iconst 0, 1) := by decide +kernel
theorem dX7_swingAt_16 : decode cX7_swingAt 16 = .ok (.ireturn, 1) := by decide +kernel
theorem dX7_swingAt_17 : decode cX7_swingAt 17 = .ok (.aload_n 0, 1) := by decide +kernel
theorem dX7_swingAt_18 : decode cX7_swingAt 18 = .ok (.getfield 9, 3) := by decide +kernel
theorem dX7_swingAt_21 : decode cX7_swingAt 21 = .ok (.iload_n 1, 1) := by decide +kernel
theorem dX7_swingAt_22 : decode cX7_swingAt 22 = .ok (.iaload, 1) := by decide +kernel
theorem dX7_swingAt_23 : decode cX7_swingAt 23 = .ok (.bipush 12, 2) := by decide +kernel
theorem dX7_swingAt_25 : decode cX7_swingAt 25 = .ok (.imul, 1) := by decide +kernel
theorem dX7_swingAt_26 : decode cX7_swingAt 26 = .ok (.istore 4, 2) := by decide +kernel
theorem dX7_swingAt_28 : decode cX7_swingAt 28 = .ok (.aload_n 0, 1) := by decide +kernel
theorem dX7_swingAt_29 : decode cX7_swingAt 29 = .ok (.getfield 15, 3) := by decide +kernel
theorem dX7_swingAt_32 : decode cX7_swingAt 32 = .ok (.iload_n 1, 1) := by decide +kernel
theorem dX7_swingAt_33 : decode cX7_swingAt 33 = .ok (.iaload, 1) := by decide +kernel
theorem dX7_swingAt_34 : decode cX7_swingAt 34 = .ok (.bipush 12, 2) := by decide +kernel
theorem dX7_swingAt_36 : decode cX7_swingAt 36 = .ok (.imul, 1) := by decide +kernel
theorem dX7_swingAt_37 : decode cX7_swingAt 37 = .ok (.istore 5, 2) := by decide +kernel
theorem dX7_swingAt_39 : decode cX7_swingAt 39 = .ok (.aload_n 0, 1) := by decide +kernel
theorem dX7_swingAt_40 : decode cX7_swingAt 40 = .ok (.getfield 21, 3) := by decide +kernel
theorem dX7_swingAt_43 : decode cX7_swingAt 43 = .ok (.iload 4, 2) := by decide +kernel
theorem dX7_swingAt_45 : decode cX7_swingAt 45 = .ok (.iload_n 2, 1) := by decide +kernel
theorem dX7_swingAt_46 : decode cX7_swingAt 46 = .ok (.iadd, 1) := by decide +kernel
theorem dX7_swingAt_47 : decode cX7_swingAt 47 = .ok (.iaload, 1) := by decide +kernel
theorem dX7_swingAt_48 : decode cX7_swingAt 48 = .ok (.aload_n 0, 1) := by decide +kernel
theorem dX7_swingAt_49 : decode cX7_swingAt 49 = .ok (.getfield 21, 3) := by decide +kernel
theorem dX7_swingAt_52 : decode cX7_swingAt 52 = .ok (.iload 5, 2) := by decide +kernel
theorem dX7_swingAt_54 : decode cX7_swingAt 54 = .ok (.iload_n 3, 1) := by decide +kernel
theorem dX7_swingAt_55 : decode cX7_swingAt 55 = .ok (.iadd, 1) := by decide +kernel
theorem dX7_swingAt_56 : decode cX7_swingAt 56 = .ok (.iaload, 1) := by decide +kernel
theorem dX7_swingAt_57 : decode cX7_swingAt 57 = .ok (.imul, 1) := by decide +kernel
theorem dX7_swingAt_58 : decode cX7_swingAt 58 = .ok (.istore 6, 2) := by decide +kernel
theorem dX7_swingAt_60 : decode cX7_swingAt 60 = .ok (.aload_n 0, 1) := by decide +kernel
theorem dX7_swingAt_61 : decode cX7_swingAt 61 = .ok (.getfield 21, 3) := by decide +kernel
theorem dX7_swingAt_64 : decode cX7_swingAt 64 = .ok (.iload 5, 2) := by decide +kernel
theorem dX7_swingAt_66 : decode cX7_swingAt 66 = .ok (.iload_n 2, 1) := by decide +kernel
theorem dX7_swingAt_67 : decode cX7_swingAt 67 = .ok (.iadd, 1) := by decide +kernel
theorem dX7_swingAt_68 : decode cX7_swingAt 68 = .ok (.iaload, 1) := by decide +kernel
theorem dX7_swingAt_69 : decode cX7_swingAt 69 = .ok (.aload_n 0, 1) := by decide +kernel
theorem dX7_swingAt_70 : decode cX7_swingAt 70 = .ok (.getfield 21, 3) := by decide +kernel
theorem dX7_swingAt_73 : decode cX7_swingAt 73 = .ok (.iload 4, 2) := by decide +kernel
theorem dX7_swingAt_75 : decode cX7_swingAt 75 = .ok (.iload_n 3, 1) := by decide +kernel
theorem dX7_swingAt_76 : decode cX7_swingAt 76 = .ok (.iadd, 1) := by decide +kernel
theorem dX7_swingAt_77 : decode cX7_swingAt 77 = .ok (.iaload, 1) := by decide +kernel
theorem dX7_swingAt_78 : decode cX7_swingAt 78 = .ok (.imul, 1) := by decide +kernel
theorem dX7_swingAt_79 : decode cX7_swingAt 79 = .ok (.istore 7, 2) := by decide +kernel
theorem dX7_swingAt_81 : decode cX7_swingAt 81 = .ok (.aload_n 0, 1) := by decide +kernel
theorem dX7_swingAt_82 : decode cX7_swingAt 82 = .ok (.getfield 18, 3) := by decide +kernel
theorem dX7_swingAt_85 : decode cX7_swingAt 85 = .ok (.iload_n 1, 1) := by decide +kernel
theorem dX7_swingAt_86 : decode cX7_swingAt 86 = .ok (.iaload, 1) := by decide +kernel
theorem dX7_swingAt_87 : decode cX7_swingAt 87 = .ok (.ifCond .ne 11, 3) := by decide +kernel
theorem dX7_swingAt_90 : decode cX7_swingAt 90 = .ok (.iload 6, 2) := by decide +kernel
theorem dX7_swingAt_92 : decode cX7_swingAt 92 = .ok (.iload 7, 2) := by decide +kernel
theorem dX7_swingAt_94 : decode cX7_swingAt 94 = .ok (.iadd, 1) := by decide +kernel
theorem dX7_swingAt_95 : decode cX7_swingAt 95 = .ok (.goto 8, 3) := by decide +kernel
theorem dX7_swingAt_98 : decode cX7_swingAt 98 = .ok (.iload 6, 2) := by decide +kernel
theorem dX7_swingAt_100 : decode cX7_swingAt 100 = .ok (.iload 7, 2) := by decide +kernel
theorem dX7_swingAt_102 : decode cX7_swingAt 102 = .ok (.isub, 1) := by decide +kernel
theorem dX7_swingAt_103 : decode cX7_swingAt 103 = .ok (.bipush 100, 2) := by decide +kernel
theorem dX7_swingAt_105 : decode cX7_swingAt 105 = .ok (.idiv, 1) := by decide +kernel
theorem dX7_swingAt_106 : decode cX7_swingAt 106 = .ok (.invokestatic 44, 3) := by decide +kernel
theorem dX7_swingAt_109 : decode cX7_swingAt 109 = .ok (.ireturn, 1) := by decide +kernel
set_option maxRecDepth 20000 in
theorem ggX8_init_X7_init : GoodIn wsX8_init wsX7_init := goodIn_r _ [36, 37, 2, 3, 38, 39, 40, 41, 42, 43, 44, 45, 6, 46, 47, 48, 49, 50, 138, 139, 140, 141, 142] (by decide +kernel) (by decide +kernel)
set_option maxRecDepth 20000 in
theorem gX8_init_X7_init : GoodIn wsX8_init (wsX7_init) := ggX8_init_X7_init
set_option maxRecDepth 20000 in
theorem ggX8_init_X5_init : GoodIn wsX8_init wsX5_init := goodIn_r _ [53, 54, 2, 3, 38, 55, 56, 57, 58, 59, 60, 61, 62, 63, 64, 65, 66, 67, 68, 69, 70, 71, 72, 73, 74, 75, 76, 77, 78, 79, 80, 81, 82, 83, 84, 85, 86, 87, 88, 89, 10, 90, 152, 153, 154, 155, 156, 157, 158, 159, 160, 161, 162, 163, 186, 187, 188, 189, 190] (by decide +kernel) (by decide +kernel)
set_option maxRecDepth 20000 in
theorem gX8_init_X5_init : GoodIn wsX8_init (wsX5_init) := ggX8_init_X5_init
set_option maxRecDepth 20000 in
theorem ggX8_init_X0_init : GoodIn wsX8_init wsX0_init := goodIn_r _ [93, 94, 2, 3, 38, 95, 96, 97, 98, 99, 100, 164, 165, 166, 167, 168] (by decide +kernel) (by decide +kernel)
set_option maxRecDepth 20000 in
theorem gX8_init_X0_init : GoodIn wsX8_init (wsX0_init) := ggX8_init_X0_init
set_option maxRecDepth 20000 in
theorem ggX8_init_X1_init : GoodIn wsX8_init wsX1_init := goodIn_r _ [103, 104, 2, 3, 97, 105, 38, 106, 107, 108, 109, 169, 170, 171, 172, 173] (by decide +kernel) (by decide +kernel)
set_option maxRecDepth 20000 in
theorem gX8_init_X1_init : GoodIn wsX8_init (wsX1_init) := ggX8_init_X1_init
set_option maxRecDepth 20000 in
theorem ggX8_init_X3_init : GoodIn wsX8_init wsX3_init := goodIn_r _ [112, 113, 2, 3, 38, 114, 115, 116, 117, 118, 174, 175, 176, 177, 178] (by decide +kernel) (by decide +kernel)
set_option maxRecDepth 20000 in
theorem gX8_init_X3_init : GoodIn wsX8_init (wsX3_init) := ggX8_init_X3_init
set_option maxRecDepth 20000 in
theorem ggX8_init_X6_init : GoodIn wsX8_init wsX6_init := goodIn_r _ [120, 121, 2, 3, 122, 123, 124, 125, 61, 62, 126, 127, 128, 75, 76, 77, 78, 79, 80, 81, 82, 83, 38, 84, 85, 86, 179, 180, 181, 182, 186, 187, 188, 189, 190] (by decide +kernel) (by decide +kernel)
set_option maxRecDepth 20000 in
theorem gX8_init_X6_init_n48 : GoodIn wsX8_init (wsX6_init) := ggX8_init_X6_init
set_option maxRecDepth 20000 in
theorem ggX8_init_X2_init : GoodIn wsX8_init wsX2_init := goodIn_r _ [131, 132, 2, 3, 133, 134, 135, 136, 9, 10, 137, 52, 53, 54, 38, 55, 56, 57, 58, 59, 60, 61, 62, 63, 64, 65, 66, 67, 68, 69, 70, 71, 72, 73, 74, 75, 76, 77, 78, 79, 80, 81, 82, 83, 84, 85, 86, 87, 88, 89, 90, 183, 184, 185, 152, 153, 154, 155, 156, 157, 158, 159, 160, 161, 162, 163, 186, 187, 188, 189, 190] (by decide +kernel) (by decide +kernel)
set_option maxRecDepth 20000 in
theorem gX8_init_X2_init : GoodIn wsX8_init (wsX2_init) := ggX8_init_X2_init
end
section
theorem dX8_init_0 : decode cX8_init 0 = .ok (.aload_n 0, 1) := by decide +kernel
theorem dX8_init_1 : decode cX8_init 1 = .ok (.invokespecial 3, 3) := by decide +kernel
theorem dX8_init_4 : decode cX8_init 4 = .ok (.aload_n 0, 1) := by decide +kernel
theorem dX8_init_5 : decode cX8_init 5 = .ok (.new 9, 3) := by decide +kernel
theorem dX8_init_8 : decode cX8_init 8 = .ok (.dup, 1) := by decide +kernel
theorem dX8_init_9 : decode cX8_init 9 = .ok (.invokespecial 11, 3) := by decide +kernel
theorem dX8_init_12 : decode cX8_init 12 = .ok (.putfield 12, 3) := by decide +kernel
theorem dX8_init_15 : decode cX8_init 15 = .ok (.aload_n 0, 1) := by decide +kernel
theorem dX8_init_16 : decode cX8_init 16 = .ok (.new 16, 3) := by decide +kernel
theorem dX8_init_19 : decode cX8_init 19 = .ok (.dup, 1) := by decide +kernel
theorem dX8_init_20 : decode cX8_init 20 = .ok (.invokespecial 18, 3) := by decide +kernel
theorem dX8_init_23 : decode cX8_init 23 = .ok (.putfield 19, 3) := by decide +kernel
theorem dX8_init_26 : decode cX8_init 26 = .ok (.aload_n 0, 1) := by decide +kernel
theorem dX8_init_27 : decode cX8_init 27 = .ok (.new 23, 3) := by decide +kernel
theorem dX8_init_30 : decode cX8_init 30 = .ok (.dup, 1) := by decide +kernel
theorem dX8_init_31 : decode cX8_init 31 = .ok (.aload_n 0, 1) := by decide +kernel
theorem dX8_init_32 : decode cX8_init 32 = .ok (.getfield 12, 3) := by decide +kernel
theorem dX8_init_35 : decode cX8_init 35 = .ok (.aload_n 0, 1) := by decide +kernel
theorem dX8_init_36 : decode cX8_init 36 = .ok (.getfield 19, 3) := by decide +kernel
theorem dX8_init_39 : decode cX8_init 39 = .ok (.invokespecial 25, 3) := by decide +kernel
theorem dX8_init_42 : decode cX8_init 42 = .ok (.putfield 28, 3) := by decide +kernel
theorem dX8_init_45 : decode cX8_init 45 = .ok (.aload_n 0, 1) := by decide +kernel
theorem dX8_init_46 : decode cX8_init 46 = .ok (.new 32, 3) := by decide +kernel
theorem dX8_init_49 : decode cX8_init 49 = .ok (.dup, 1) := by decide +kernel
theorem dX8_init_50 : decode cX8_init 50 = .ok (.aload_n 0, 1) := by decide +kernel
theorem dX8_init_51 : decode cX8_init 51 = .ok (.getfield 12, 3) := by decide +kernel
theorem dX8_init_54 : decode cX8_init 54 = .ok (.aload_n 0, 1) := by decide +kernel
theorem dX8_init_55 : decode cX8_init 55 = .ok (.getfield 19, 3) := by decide +kernel
theorem dX8_init_58 : decode cX8_init 58 = .ok (.invokespecial 34, 3) := by decide +kernel
theorem dX8_init_61 : decode cX8_init 61 = .ok (.putfield 35, 3) := by decide +kernel
theorem dX8_init_64 : decode cX8_init 64 = .ok (.aload_n 0, 1) := by decide +kernel
theorem dX8_init_65 : decode cX8_init 65 = .ok (.new 39, 3) := by decide +kernel
theorem dX8_init_68 : decode cX8_init 68 = .ok (.dup, 1) := by decide +kernel
theorem dX8_init_69 : decode cX8_init 69 = .ok (.aload_n 0, 1) := by decide +kernel
theorem dX8_init_70 : decode cX8_init 70 = .ok (.getfield 12, 3) := by decide +kernel
theorem dX8_init_73 : decode cX8_init 73 = .ok (.aload_n 0, 1) := by decide +kernel
theorem dX8_init_74 : decode cX8_init 74 = .ok (.getfield 19, 3) := by decide +kernel
theorem dX8_init_77 : decode cX8_init 77 = .ok (.invokespecial 41, 3) := by decide +kernel
theorem dX8_init_80 : decode cX8_init 80 = .ok (.putfield 42, 3) := by decide +kernel
theorem dX8_init_83 : decode cX8_init 83 = .ok (.aload_n 0, 1) := by decide +kernel
theorem dX8_init_84 : decode cX8_init 84 = .ok (.new 46, 3) := by decide +kernel
theorem dX8_init_87 : decode cX8_init 87 = .ok (.dup, 1) := by decide +kernel
theorem dX8_init_88 : decode cX8_init 88 = .ok (.invokespecial 48, 3) := by decide +kernel
theorem dX8_init_91 : decode cX8_init 91 = .ok (.putfield 49, 3) := by decide +kernel
theorem dX8_init_94 : decode cX8_init 94 = .ok (.aload_n 0, 1) := by decide +kernel
theorem dX8_init_95 : decode cX8_init 95 = .ok (.new 53, 3) := by decide +kernel
theorem dX8_init_98 : decode cX8_init 98 = .ok (.dup, 1) := by decide +kernel
theorem dX8_init_99 : decode cX8_init 99 = .ok (.invokespecial 55, 3) := by decide +kernel
theorem dX8_init_102 : decode cX8_init 102 = .ok (.putfield 56, 3) := by decide +kernel
theorem dX8_init_105 : decode cX8_init 105 = .ok (.aload_n 0, 1) := by decide +kernel
theorem dX8_init_106 : decode cX8_init 106 = .ok (.new 16, 3) := by decide +kernel
theorem dX8_init_109 : decode cX8_init 109 = .ok (.dup, 1) := by decide +kernel
theorem dX8_init_110 : decode cX8_init 110 = .ok (.invokespecial 18, 3) := by decide +kernel
theorem dX8_init_113 : decode cX8_init 113 = .ok (.putfield 60, 3) := by decide +kernel
theorem dX8_init_116 : decode cX8_init 116 = .ok (.aload_n 0, 1) := by decide +kernel
theorem dX8_init_117 : decode cX8_init 117 = .ok (.iconst 0, 1) := by decide +kernel
theorem dX8_init_118 : decode cX8_init 118 = .ok (.putfield 63, 3) := by decide +kernel
theorem dX8_init_121 : decode cX8_init 121 = .ok (.return_, 1) := by decide +kernel
set_option maxRecDepth 20000 in
theorem ggX8_strew_X8_isPlace : GoodIn wsX8_strew wsX8_isPlace := goodIn_r _ [6] (by decide +kernel) (by decide +kernel)
set_option maxRecDepth 20000 in
theorem gX8_strew_X8_isPlace : GoodIn wsX8_strew (va_wsS RX8 67 yX8_isPlace wsX8_isPlace) := goodIn_app (goodIn_of _ (by decide +kernel)) ggX8_strew_X8_isPlace
set_option maxRecDepth 20000 in
theorem ggX8_strew_X2_record : GoodIn wsX8_strew wsX2_record := goodIn_r _ [11, 12, 13, 14, 15, 16, 17, 18, 19, 20, 21, 22, 23, 24, 25, 26, 27, 28, 29, 30, 31, 32, 33, 34, 35, 36, 37, 38, 39, 40, 41, 42, 43, 44, 45, 46, 47, 48, 49, 50, 51, 52, 53, 78, 79, 80, 66, 67, 68, 69, 70, 71, 72, 73, 74, 75, 76, 77, 81, 82, 83, 84, 85] (by decide +kernel) (by decide +kernel)
set_option maxRecDepth 20000 in
theorem gX8_strew_X2_record : GoodIn wsX8_strew (wsV RX8 71 RX2 yX2_record wsX2_record) := goodIn_app (goodIn_of _ (by decide +kernel)) ggX8_strew_X2_record
set_option maxRecDepth 20000 in
theorem ggX8_strew_X8_placeOf : GoodIn wsX8_strew wsX8_placeOf := goodIn_r _ [56] (by decide +kernel) (by decide +kernel)
set_option maxRecDepth 20000 in
theorem gX8_strew_X8_placeOf : GoodIn wsX8_strew (va_wsS RX8 75 yX8_placeOf wsX8_placeOf) := goodIn_app (goodIn_of _ (by decide +kernel)) ggX8_strew_X8_placeOf
theorem dX8_strew_0 : decode cX8_strew 0 = .ok (.iload_n 1, 1) := by decide +kernel
theorem dX8_strew_1 : decode cX8_strew 1 = .ok (.iload_n 2, 1) := by decide +kernel
theorem dX8_strew_2 : decode cX8_strew 2 = .ok (.invokestatic 67, 3) := by decide +kernel
theorem dX8_strew_5 : decode cX8_strew 5 = .ok (.ifCond .ne 5, 3) := by decide +kernel
theorem dX8_strew_8 : decode cX8_strew 8 = .ok (.iconst (-1), 1) := by decide +kernel
theorem dX8_strew_9 : decode cX8_strew 9 = .ok (.ireturn, 1) := by decide +kernel
theorem dX8_strew_10 : decode cX8_strew 10 = .ok (.iload_n 3, 1) := by decide +kernel
theorem dX8_strew_11 : decode cX8_strew 11 = .ok (.iconst 1, 1) := by decide +kernel
theorem dX8_strew_12 : decode cX8_strew 12 = .ok (.if_icmp .lt 9, 3) := by decide +kernel
theorem dX8_strew_15 : decode cX8_strew 15 = .ok (.iload_n 3, 1) := by decide +kernel
theorem dX8_strew_16 : decode cX8_strew 16 = .ok (.bipush 99, 2) := by decide +kernel
theorem dX8_strew_18 : decode cX8_strew 18 = .ok (.if_icmp .le 6, 3) := by decide +kernel
theorem dX8_strew_21 : decode cX8_strew 21 = .ok (.bipush (-2), 2) := by decide +kernel
theorem dX8_strew_23 : decode cX8_strew 23 = .ok (.ireturn, 1) := by decide +kernel
theorem dX8_strew_24 : decode cX8_strew 24 = .ok (.aload_n 0, 1) := by decide +kernel
theorem dX8_strew_25 : decode cX8_strew 25 = .ok (.getfield 56, 3) := by decide +kernel
theorem dX8_strew_28 : decode cX8_strew 28 = .ok (.aload_n 0, 1) := by decide +kernel
theorem dX8_strew_29 : decode cX8_strew 29 = .ok (.getfield 19, 3) := by decide +kernel
theorem dX8_strew_32 : decode cX8_strew 32 = .ok (.invokevirtual 71, 3) := by decide +kernel
theorem dX8_strew_35 : decode cX8_strew 35 = .ok (.iload_n 1, 1) := by decide +kernel
theorem dX8_strew_36 : decode cX8_strew 36 = .ok (.iload_n 2, 1) := by decide +kernel
theorem dX8_strew_37 : decode cX8_strew 37 = .ok (.invokestatic 75, 3) := by decide +kernel
theorem dX8_strew_40 : decode cX8_strew 40 = .ok (.istore 4, 2) := by decide +kernel
theorem dX8_strew_42 : decode cX8_strew 42 = .ok (.aload_n 0, 1) := by decide +kernel
theorem dX8_strew_43 : decode cX8_strew 43 = .ok (.getfield 19, 3) := by decide +kernel
theorem dX8_strew_46 : decode cX8_strew 46 = .ok (.getfield 79, 3) := by decide +kernel
theorem dX8_strew_49 : decode cX8_strew 49 = .ok (.iload 4, 2) := by decide +kernel
theorem dX8_strew_51 : decode cX8_strew 51 = .ok (.dup2, 1) := by decide +kernel
theorem dX8_strew_52 : decode cX8_strew 52 = .ok (.iaload, 1) := by decide +kernel
theorem dX8_strew_53 : decode cX8_strew 53 = .ok (.iload_n 3, 1) := by decide +kernel
theorem dX8_strew_54 : decode cX8_strew 54 = .ok (.iadd, 1) := by decide +kernel
theorem dX8_strew_55 : decode cX8_strew 55 = .ok (.iastore, 1) := by decide +kernel
theorem dX8_strew_56 : decode cX8_strew 56 = .ok (.aload_n 0, 1) := by decide +kernel
theorem dX8_strew_57 : decode cX8_strew 57 = .ok (.getfield 19, 3) := by decide +kernel
theorem dX8_strew_60 : decode cX8_strew 60 = .ok (.dup, 1) := by decide +kernel
theorem dX8_strew_61 : decode cX8_strew 61 = .ok (.getfield 83, 3) := by decide +kernel
theorem dX8_strew_64 : decode cX8_strew 64 = .ok (.iload_n 3, 1) := by decide +kernel
theorem dX8_strew_65 : decode cX8_strew 65 = .ok (.iadd, 1) := by decide +kernel
theorem dX8_strew_66 : decode cX8_strew 66 = .ok (.putfield 83, 3) := by decide +kernel
theorem dX8_strew_69 : decode cX8_strew 69 = .ok (.aload_n 0, 1) := by decide +kernel
theorem dX8_strew_70 : decode cX8_strew 70 = .ok (.getfield 19, 3) := by decide +kernel
theorem dX8_strew_73 : decode cX8_strew 73 = .ok (.getfield 79, 3) := by decide +kernel
theorem dX8_strew_76 : decode cX8_strew 76 = .ok (.iload 4, 2) := by decide +kernel
theorem dX8_strew_78 : decode cX8_strew 78 = .ok (.iaload, 1) := by decide +kernel
theorem dX8_strew_79 : decode cX8_strew 79 = .ok (.ireturn, 1) := by decide +kernel
set_option maxRecDepth 20000 in
theorem ggX8_sweep_X2_record : GoodIn wsX8_sweep wsX2_record := goodIn_r _ [7, 8, 9, 10, 11, 12, 13, 14, 15, 16, 17, 18, 19, 20, 21, 22, 23, 24, 25, 26, 27, 28, 29, 30, 31, 32, 33, 34, 35, 36, 37, 38, 39, 40, 41, 42, 43, 44, 45, 46, 47, 48, 49, 79, 80, 81, 67, 68, 69, 70, 71, 72, 73, 74, 75, 76, 77, 78, 82, 83, 84, 85, 86] (by decide +kernel) (by decide +kernel)
set_option maxRecDepth 20000 in
theorem gX8_sweep_X2_record : GoodIn wsX8_sweep (wsV RX8 71 RX2 yX2_record wsX2_record) := goodIn_app (goodIn_of _ (by decide +kernel)) ggX8_sweep_X2_record
set_option maxRecDepth 20000 in
theorem ggX8_sweep_X5_allGrains : GoodIn wsX8_sweep wsX5_allGrains := goodIn_r _ [53, 16, 67, 68, 69, 70, 71, 72, 73, 74, 75, 76, 77, 78] (by decide +kernel) (by decide +kernel)
set_option maxRecDepth 20000 in
theorem gX8_sweep_X5_allGrains : GoodIn wsX8_sweep (wsV RX8 87 RX5 yX5_allGrains wsX5_allGrains) := goodIn_app (goodIn_of _ (by decide +kernel)) ggX8_sweep_X5_allGrains
set_option maxRecDepth 20000 in
theorem ggX8_sweep_X5_coverWith : GoodIn wsX8_sweep wsX5_coverWith := goodIn_r _ [57, 16, 67, 68, 69, 70, 71, 72, 73, 74, 75, 76, 77, 78] (by decide +kernel) (by decide +kernel)
set_option maxRecDepth 20000 in
theorem gX8_sweep_X5_coverWith : GoodIn wsX8_sweep (wsV RX8 94 RX5 yX5_coverWith wsX5_coverWith) := goodIn_app (goodIn_of _ (by decide +kernel)) ggX8_sweep_X5_coverWith
theorem dX8_sweep_0 : decode cX8_sweep 0 = .ok (.iload_n 1, 1) := by decide +kernel
theorem dX8_sweep_1 : decode cX8_sweep 1 = .ok (.ifCond .lt 9, 3) := by decide +kernel
theorem dX8_sweep_4 : decode cX8_sweep 4 = .ok (.iload_n 1, 1) := by decide +kernel
theorem dX8_sweep_5 : decode cX8_sweep 5 = .ok (.bipush 99, 2) := by decide +kernel
theorem dX8_sweep_7 : decode cX8_sweep 7 = .ok (.if_icmp .le 6, 3) := by decide +kernel
theorem dX8_sweep_10 : decode cX8_sweep 10 = .ok (.bipush (-2), 2) := by decide +kernel
theorem dX8_sweep_12 : decode cX8_sweep 12 = .ok (.ireturn, 1) := by decide +kernel
theorem dX8_sweep_13 : decode cX8_sweep 13 = .ok (.aload_n 0, 1) := by decide +kernel
theorem dX8_sweep_14 : decode cX8_sweep 14 = .ok (.getfield 56, 3) := by decide +kernel
theorem dX8_sweep_17 : decode cX8_sweep 17 = .ok (.aload_n 0, 1) := by decide +kernel
theorem dX8_sweep_18 : decode cX8_sweep 18 = .ok (.getfield 19, 3) := by decide +kernel
theorem dX8_sweep_21 : decode cX8_sweep 21 = .ok (.invokevirtual 71, 3) := by decide +kernel
theorem dX8_sweep_24 : decode cX8_sweep 24 = .ok (.aload_n 0, 1) := by decide +kernel
theorem dX8_sweep_25 : decode cX8_sweep 25 = .ok (.getfield 19, 3) := by decide +kernel
theorem dX8_sweep_28 : decode cX8_sweep 28 = .ok (.invokevirtual 87, 3) := by decide +kernel
theorem dX8_sweep_31 : decode cX8_sweep 31 = .ok (.istore_n 2, 1) := by decide +kernel
theorem dX8_sweep_32 : decode cX8_sweep 32 = .ok (.aload_n 0, 1) := by decide +kernel
theorem dX8_sweep_33 : decode cX8_sweep 33 = .ok (.getfield 19, 3) := by decide +kernel
theorem dX8_sweep_36 : decode cX8_sweep 36 = .ok (.dup, 1) := by decide +kernel
theorem dX8_sweep_37 : decode cX8_sweep 37 = .ok (.getfield 91, 3) := by decide +kernel
theorem dX8_sweep_40 : decode cX8_sweep 40 = .ok (.iload_n 2, 1) := by decide +kernel
theorem dX8_sweep_41 : decode cX8_sweep 41 = .ok (.iadd, 1) := by decide +kernel
theorem dX8_sweep_42 : decode cX8_sweep 42 = .ok (.putfield 91, 3) := by decide +kernel
theorem dX8_sweep_45 : decode cX8_sweep 45 = .ok (.aload_n 0, 1) := by decide +kernel
theorem dX8_sweep_46 : decode cX8_sweep 46 = .ok (.getfield 19, 3) := by decide +kernel
theorem dX8_sweep_49 : decode cX8_sweep 49 = .ok (.dup, 1) := by decide +kernel
theorem dX8_sweep_50 : decode cX8_sweep 50 = .ok (.getfield 83, 3) := by decide +kernel
theorem dX8_sweep_53 : decode cX8_sweep 53 = .ok (.sipush 144, 3) := by decide +kernel
theorem dX8_sweep_56 : decode cX8_sweep 56 = .ok (.iload_n 1, 1) := by decide +kernel
theorem dX8_sweep_57 : decode cX8_sweep 57 = .ok (.imul, 1) := by decide +kernel
theorem dX8_sweep_58 : decode cX8_sweep 58 = .ok (.iadd, 1) := by decide +kernel
theorem dX8_sweep_59 : decode cX8_sweep 59 = .ok (.putfield 83, 3) := by decide +kernel
theorem dX8_sweep_62 : decode cX8_sweep 62 = .ok (.aload_n 0, 1) := by decide +kernel
theorem dX8_sweep_63 : decode cX8_sweep 63 = .ok (.getfield 19, 3) := by decide +kernel
theorem dX8_sweep_66 : decode cX8_sweep 66 = .ok (.iload_n 1, 1) := by decide +kernel
theorem dX8_sweep_67 : decode cX8_sweep 67 = .ok (.invokevirtual 94, 3) := by decide +kernel
theorem dX8_sweep_70 : decode cX8_sweep 70 = .ok (.iload_n 2, 1) := by decide +kernel
theorem dX8_sweep_71 : decode cX8_sweep 71 = .ok (.ireturn, 1) := by decide +kernel
set_option maxRecDepth 20000 in
theorem ggX8_clamp_X8_isPlace : GoodIn wsX8_clamp wsX8_isPlace := goodIn_r _ [6] (by decide +kernel) (by decide +kernel)
set_option maxRecDepth 20000 in
theorem gX8_clamp_X8_isPlace : GoodIn wsX8_clamp (va_wsS RX8 67 yX8_isPlace wsX8_isPlace) := goodIn_app (goodIn_of _ (by decide +kernel)) ggX8_clamp_X8_isPlace
set_option maxRecDepth 20000 in
theorem ggX8_clamp_X5_clampOn : GoodIn wsX8_clamp wsX5_clampOn := goodIn_r _ [11, 12, 13, 14, 67, 68, 69, 70, 71, 72, 73, 74, 75, 76, 77, 78] (by decide +kernel) (by decide +kernel)
set_option maxRecDepth 20000 in
theorem gX8_clamp_X5_clampOn : GoodIn wsX8_clamp (wsV RX8 101 RX5 yX5_clampOn wsX5_clampOn) := goodIn_app (goodIn_of _ (by decide +kernel)) ggX8_clamp_X5_clampOn
set_option maxRecDepth 20000 in
theorem ggX8_clamp_X2_record : GoodIn wsX8_clamp wsX2_record := goodIn_r _ [19, 20, 21, 22, 23, 24, 25, 10, 26, 27, 28, 29, 30, 31, 13, 14, 12, 32, 33, 34, 35, 36, 37, 38, 39, 40, 41, 42, 43, 44, 45, 46, 47, 48, 49, 50, 51, 52, 53, 54, 55, 56, 57, 79, 80, 81, 67, 68, 69, 70, 71, 72, 73, 74, 75, 76, 77, 78, 82, 83, 84, 85, 86] (by decide +kernel) (by decide +kernel)
set_option maxRecDepth 20000 in
theorem gX8_clamp_X2_record : GoodIn wsX8_clamp (wsV RX8 71 RX2 yX2_record wsX2_record) := goodIn_app (goodIn_of _ (by decide +kernel)) ggX8_clamp_X2_record
theorem dX8_clamp_0 : decode cX8_clamp 0 = .ok (.iload_n 1, 1) := by decide +kernel
theorem dX8_clamp_1 : decode cX8_clamp 1 = .ok (.iload_n 2, 1) := by decide +kernel
theorem dX8_clamp_2 : decode cX8_clamp 2 = .ok (.invokestatic 67, 3) := by decide +kernel
theorem dX8_clamp_5 : decode cX8_clamp 5 = .ok (.ifCond .ne 5, 3) := by decide +kernel
theorem dX8_clamp_8 : decode cX8_clamp 8 = .ok (.iconst (-1), 1) := by decide +kernel
theorem dX8_clamp_9 : decode cX8_clamp 9 = .ok (.ireturn, 1) := by decide +kernel
theorem dX8_clamp_10 : decode cX8_clamp 10 = .ok (.aload_n 0, 1) := by decide +kernel
theorem dX8_clamp_11 : decode cX8_clamp 11 = .ok (.getfield 19, 3) := by decide +kernel
theorem dX8_clamp_14 : decode cX8_clamp 14 = .ok (.getfield 98, 3) := by decide +kernel
theorem dX8_clamp_17 : decode cX8_clamp 17 = .ok (.iconst 4, 1) := by decide +kernel
theorem dX8_clamp_18 : decode cX8_clamp 18 = .ok (.if_icmp .lt 6, 3) := by decide +kernel
theorem dX8_clamp_21 : decode cX8_clamp 21 = .ok (.bipush (-3), 2) := by decide +kernel
theorem dX8_clamp_23 : decode cX8_clamp 23 = .ok (.ireturn, 1) := by decide +kernel
theorem dX8_clamp_24 : decode cX8_clamp 24 = .ok (.aload_n 0, 1) := by decide +kernel
theorem dX8_clamp_25 : decode cX8_clamp 25 = .ok (.getfield 19, 3) := by decide +kernel
theorem dX8_clamp_28 : decode cX8_clamp 28 = .ok (.iload_n 1, 1) := by decide +kernel
theorem dX8_clamp_29 : decode cX8_clamp 29 = .ok (.iload_n 2, 1) := by decide +kernel
theorem dX8_clamp_30 : decode cX8_clamp 30 = .ok (.invokevirtual 101, 3) := by decide +kernel
theorem dX8_clamp_33 : decode cX8_clamp 33 = .ok (.ifCond .lt 6, 3) := by decide +kernel
theorem dX8_clamp_36 : decode cX8_clamp 36 = .ok (.bipush (-5), 2) := by decide +kernel
theorem dX8_clamp_38 : decode cX8_clamp 38 = .ok (.ireturn, 1) := by decide +kernel
theorem dX8_clamp_39 : decode cX8_clamp 39 = .ok (.aload_n 0, 1) := by decide +kernel
theorem dX8_clamp_40 : decode cX8_clamp 40 = .ok (.getfield 56, 3) := by decide +kernel
theorem dX8_clamp_43 : decode cX8_clamp 43 = .ok (.aload_n 0, 1) := by decide +kernel
theorem dX8_clamp_44 : decode cX8_clamp 44 = .ok (.getfield 19, 3) := by decide +kernel
theorem dX8_clamp_47 : decode cX8_clamp 47 = .ok (.invokevirtual 71, 3) := by decide +kernel
theorem dX8_clamp_50 : decode cX8_clamp 50 = .ok (.aload_n 0, 1) := by decide +kernel
theorem dX8_clamp_51 : decode cX8_clamp 51 = .ok (.getfield 19, 3) := by decide +kernel
theorem dX8_clamp_54 : decode cX8_clamp 54 = .ok (.getfield 104, 3) := by decide +kernel
theorem dX8_clamp_57 : decode cX8_clamp 57 = .ok (.aload_n 0, 1) := by decide +kernel
theorem dX8_clamp_58 : decode cX8_clamp 58 = .ok (.getfield 19, 3) := by decide +kernel
theorem dX8_clamp_61 : decode cX8_clamp 61 = .ok (.getfield 98, 3) := by decide +kernel
theorem dX8_clamp_64 : decode cX8_clamp 64 = .ok (.iload_n 1, 1) := by decide +kernel
theorem dX8_clamp_65 : decode cX8_clamp 65 = .ok (.iastore, 1) := by decide +kernel
theorem dX8_clamp_66 : decode cX8_clamp 66 = .ok (.aload_n 0, 1) := by decide +kernel
theorem dX8_clamp_67 : decode cX8_clamp 67 = .ok (.getfield 19, 3) := by decide +kernel
theorem dX8_clamp_70 : decode cX8_clamp 70 = .ok (.getfield 107, 3) := by decide +kernel
theorem dX8_clamp_73 : decode cX8_clamp 73 = .ok (.aload_n 0, 1) := by decide +kernel
theorem dX8_clamp_74 : decode cX8_clamp 74 = .ok (.getfield 19, 3) := by decide +kernel
theorem dX8_clamp_77 : decode cX8_clamp 77 = .ok (.getfield 98, 3) := by decide +kernel
theorem dX8_clamp_80 : decode cX8_clamp 80 = .ok (.iload_n 2, 1) := by decide +kernel
theorem dX8_clamp_81 : decode cX8_clamp 81 = .ok (.iastore, 1) := by decide +kernel
theorem dX8_clamp_82 : decode cX8_clamp 82 = .ok (.aload_n 0, 1) := by decide +kernel
theorem dX8_clamp_83 : decode cX8_clamp 83 = .ok (.getfield 19, 3) := by decide +kernel
theorem dX8_clamp_86 : decode cX8_clamp 86 = .ok (.dup, 1) := by decide +kernel
theorem dX8_clamp_87 : decode cX8_clamp 87 = .ok (.getfield 98, 3) := by decide +kernel
theorem dX8_clamp_90 : decode cX8_clamp 90 = .ok (.iconst 1, 1) := by decide +kernel
theorem dX8_clamp_91 : decode cX8_clamp 91 = .ok (.iadd, 1) := by decide +kernel
theorem dX8_clamp_92 : decode cX8_clamp 92 = .ok (.putfield 98, 3) := by decide +kernel
theorem dX8_clamp_95 : decode cX8_clamp 95 = .ok (.aload_n 0, 1) := by decide +kernel
theorem dX8_clamp_96 : decode cX8_clamp 96 = .ok (.getfield 19, 3) := by decide +kernel
theorem dX8_clamp_99 : decode cX8_clamp 99 = .ok (.getfield 98, 3) := by decide +kernel
theorem dX8_clamp_102 : decode cX8_clamp 102 = .ok (.ireturn, 1) := by decide +kernel
set_option maxRecDepth 20000 in
theorem ggX8_unclamp_X8_isClamp : GoodIn wsX8_unclamp wsX8_isClamp := goodIn_r _ [7, 2, 59, 60, 61, 62, 63, 64, 65, 66, 67, 68, 69, 70, 71, 72, 73, 74, 75, 76, 77, 78, 79] (by decide +kernel) (by decide +kernel)
set_option maxRecDepth 20000 in
theorem gX8_unclamp_X8_isClamp : GoodIn wsX8_unclamp (wsV RX8 110 RX8 yX8_isClamp wsX8_isClamp) := goodIn_app (goodIn_of _ (by decide +kernel)) ggX8_unclamp_X8_isClamp
set_option maxRecDepth 20000 in
theorem ggX8_unclamp_X2_record : GoodIn wsX8_unclamp wsX2_record := goodIn_r _ [12, 13, 14, 15, 16, 17, 18, 19, 20, 21, 22, 23, 24, 25, 26, 27, 28, 29, 30, 31, 32, 33, 34, 35, 36, 37, 38, 39, 40, 41, 42, 43, 44, 45, 46, 47, 48, 49, 50, 51, 52, 53, 54, 80, 81, 82, 68, 69, 70, 71, 72, 73, 74, 75, 76, 77, 78, 79, 83, 84, 85, 86, 87] (by decide +kernel) (by decide +kernel)
set_option maxRecDepth 20000 in
theorem gX8_unclamp_X2_record : GoodIn wsX8_unclamp (wsV RX8 71 RX2 yX2_record wsX2_record) := goodIn_app (goodIn_of _ (by decide +kernel)) ggX8_unclamp_X2_record
set_option maxRecDepth 20000 in
theorem ggX8_unclamp_X5_dropClamp : GoodIn wsX8_unclamp wsX5_dropClamp := goodIn_r _ [58, 28, 26, 27, 68, 69, 70, 71, 72, 73, 74, 75, 76, 77, 78, 79] (by decide +kernel) (by decide +kernel)
set_option maxRecDepth 20000 in
theorem gX8_unclamp_X5_dropClamp : GoodIn wsX8_unclamp (wsV RX8 114 RX5 yX5_dropClamp wsX5_dropClamp) := goodIn_app (goodIn_of _ (by decide +kernel)) ggX8_unclamp_X5_dropClamp
theorem dX8_unclamp_0 : decode cX8_unclamp 0 = .ok (.aload_n 0, 1) := by decide +kernel
theorem dX8_unclamp_1 : decode cX8_unclamp 1 = .ok (.iload_n 1, 1) := by decide +kernel
theorem dX8_unclamp_2 : decode cX8_unclamp 2 = .ok (.invokevirtual 110, 3) := by decide +kernel
theorem dX8_unclamp_5 : decode cX8_unclamp 5 = .ok (.ifCond .ne 5, 3) := by decide +kernel
theorem dX8_unclamp_8 : decode cX8_unclamp 8 = .ok (.iconst (-1), 1) := by decide +kernel
theorem dX8_unclamp_9 : decode cX8_unclamp 9 = .ok (.ireturn, 1) := by decide +kernel
theorem dX8_unclamp_10 : decode cX8_unclamp 10 = .ok (.aload_n 0, 1) := by decide +kernel
theorem dX8_unclamp_11 : decode cX8_unclamp 11 = .ok (.getfield 56, 3) := by decide +kernel
theorem dX8_unclamp_14 : decode cX8_unclamp 14 = .ok (.aload_n 0, 1) := by decide +kernel
theorem dX8_unclamp_15 : decode cX8_unclamp 15 = .ok (.getfield 19, 3) := by decide +kernel
theorem dX8_unclamp_18 : decode cX8_unclamp 18 = .ok (.invokevirtual 71, 3) := by decide +kernel
theorem dX8_unclamp_21 : decode cX8_unclamp 21 = .ok (.aload_n 0, 1) := by decide +kernel
theorem dX8_unclamp_22 : decode cX8_unclamp 22 = .ok (.getfield 19, 3) := by decide +kernel
theorem dX8_unclamp_25 : decode cX8_unclamp 25 = .ok (.iload_n 1, 1) := by decide +kernel
theorem dX8_unclamp_26 : decode cX8_unclamp 26 = .ok (.invokevirtual 114, 3) := by decide +kernel
theorem dX8_unclamp_29 : decode cX8_unclamp 29 = .ok (.aload_n 0, 1) := by decide +kernel
theorem dX8_unclamp_30 : decode cX8_unclamp 30 = .ok (.getfield 19, 3) := by decide +kernel
theorem dX8_unclamp_33 : decode cX8_unclamp 33 = .ok (.getfield 98, 3) := by decide +kernel
theorem dX8_unclamp_36 : decode cX8_unclamp 36 = .ok (.ireturn, 1) := by decide +kernel
set_option maxRecDepth 20000 in
theorem ggX8_set_X2_record : GoodIn wsX8_set wsX2_record := goodIn_r _ [9, 10, 11, 12, 13, 14, 15, 16, 17, 18, 19, 20, 21, 22, 23, 24, 25, 26, 27, 28, 29, 30, 31, 32, 33, 34, 35, 36, 37, 38, 39, 40, 41, 42, 43, 44, 45, 46, 47, 48, 49, 50, 51, 73, 74, 75, 61, 62, 63, 64, 65, 66, 67, 68, 69, 70, 71, 72, 76, 77, 78, 79, 80] (by decide +kernel) (by decide +kernel)
set_option maxRecDepth 20000 in
theorem gX8_set_X2_record : GoodIn wsX8_set (wsV RX8 71 RX2 yX2_record wsX2_record) := goodIn_app (goodIn_of _ (by decide +kernel)) ggX8_set_X2_record
theorem dX8_set_0 : decode cX8_set 0 = .ok (.iload_n 1, 1) := by decide +kernel
theorem dX8_set_1 : decode cX8_set 1 = .ok (.ifCond .lt 8, 3) := by decide +kernel
theorem dX8_set_4 : decode cX8_set 4 = .ok (.iload_n 1, 1) := by decide +kernel
theorem dX8_set_5 : decode cX8_set 5 = .ok (.iconst 4, 1) := by decide +kernel
theorem dX8_set_6 : decode cX8_set 6 = .ok (.if_icmp .lt 6, 3) := by decide +kernel
theorem dX8_set_9 : decode cX8_set 9 = .ok (.bipush (-2), 2) := by decide +kernel
theorem dX8_set_11 : decode cX8_set 11 = .ok (.ireturn, 1) := by decide +kernel
theorem dX8_set_12 : decode cX8_set 12 = .ok (.iload_n 2, 1) := by decide +kernel
theorem dX8_set_13 : decode cX8_set 13 = .ok (.getstatic 117, 3) := by decide +kernel
theorem dX8_set_16 : decode cX8_set 16 = .ok (.iload_n 1, 1) := by decide +kernel
theorem dX8_set_17 : decode cX8_set 17 = .ok (.iaload, 1) := by decide +kernel
theorem dX8_set_18 : decode cX8_set 18 = .ok (.if_icmp .lt 12, 3) := by decide +kernel
theorem dX8_set_21 : decode cX8_set 21 = .ok (.iload_n 2, 1) := by decide +kernel
theorem dX8_set_22 : decode cX8_set 22 = .ok (.getstatic 120, 3) := by decide +kernel
theorem dX8_set_25 : decode cX8_set 25 = .ok (.iload_n 1, 1) := by decide +kernel
theorem dX8_set_26 : decode cX8_set 26 = .ok (.iaload, 1) := by decide +kernel
theorem dX8_set_27 : decode cX8_set 27 = .ok (.if_icmp .le 6, 3) := by decide +kernel
theorem dX8_set_30 : decode cX8_set 30 = .ok (.bipush (-2), 2) := by decide +kernel
theorem dX8_set_32 : decode cX8_set 32 = .ok (.ireturn, 1) := by decide +kernel
theorem dX8_set_33 : decode cX8_set 33 = .ok (.aload_n 0, 1) := by decide +kernel
theorem dX8_set_34 : decode cX8_set 34 = .ok (.getfield 19, 3) := by decide +kernel
theorem dX8_set_37 : decode cX8_set 37 = .ok (.getfield 123, 3) := by decide +kernel
theorem dX8_set_40 : decode cX8_set 40 = .ok (.iload_n 1, 1) := by decide +kernel
theorem dX8_set_41 : decode cX8_set 41 = .ok (.iaload, 1) := by decide +kernel
theorem dX8_set_42 : decode cX8_set 42 = .ok (.istore_n 3, 1) := by decide +kernel
theorem dX8_set_43 : decode cX8_set 43 = .ok (.iload_n 2, 1) := by decide +kernel
theorem dX8_set_44 : decode cX8_set 44 = .ok (.iload_n 3, 1) := by decide +kernel
theorem dX8_set_45 : decode cX8_set 45 = .ok (.if_icmp .ne 6, 3) := by decide +kernel
theorem dX8_set_48 : decode cX8_set 48 = .ok (.bipush (-5), 2) := by decide +kernel
theorem dX8_set_50 : decode cX8_set 50 = .ok (.ireturn, 1) := by decide +kernel
theorem dX8_set_51 : decode cX8_set 51 = .ok (.aload_n 0, 1) := by decide +kernel
theorem dX8_set_52 : decode cX8_set 52 = .ok (.getfield 56, 3) := by decide +kernel
theorem dX8_set_55 : decode cX8_set 55 = .ok (.aload_n 0, 1) := by decide +kernel
theorem dX8_set_56 : decode cX8_set 56 = .ok (.getfield 19, 3) := by decide +kernel
theorem dX8_set_59 : decode cX8_set 59 = .ok (.invokevirtual 71, 3) := by decide +kernel
theorem dX8_set_62 : decode cX8_set 62 = .ok (.aload_n 0, 1) := by decide +kernel
theorem dX8_set_63 : decode cX8_set 63 = .ok (.getfield 19, 3) := by decide +kernel
theorem dX8_set_66 : decode cX8_set 66 = .ok (.getfield 123, 3) := by decide +kernel
theorem dX8_set_69 : decode cX8_set 69 = .ok (.iload_n 1, 1) := by decide +kernel
theorem dX8_set_70 : decode cX8_set 70 = .ok (.iload_n 2, 1) := by decide +kernel
theorem dX8_set_71 : decode cX8_set 71 = .ok (.iastore, 1) := by decide +kernel
theorem dX8_set_72 : decode cX8_set 72 = .ok (.iload_n 3, 1) := by decide +kernel
theorem dX8_set_73 : decode cX8_set 73 = .ok (.ireturn, 1) := by decide +kernel
set_option maxRecDepth 20000 in
theorem ggX8_bow_X8_isBow : GoodIn wsX8_bow wsX8_isBow := goodIn_r _ [6, 7, 8, 5, 9] (by decide +kernel) (by decide +kernel)
set_option maxRecDepth 20000 in
theorem gX8_bow_X8_isBow : GoodIn wsX8_bow (va_wsS RX8 126 yX8_isBow wsX8_isBow) := goodIn_app (goodIn_of _ (by decide +kernel)) ggX8_bow_X8_isBow
set_option maxRecDepth 20000 in
theorem ggX8_bow_X2_record : GoodIn wsX8_bow wsX2_record := goodIn_r _ [14, 15, 16, 17, 18, 19, 20, 21, 22, 23, 24, 25, 26, 27, 28, 29, 30, 31, 32, 33, 34, 35, 36, 37, 38, 39, 40, 41, 42, 43, 44, 45, 46, 47, 48, 49, 50, 51, 52, 53, 54, 55, 56, 84, 85, 86, 67, 68, 69, 70, 71, 72, 73, 74, 75, 76, 77, 78, 79, 80, 81, 82, 83] (by decide +kernel) (by decide +kernel)
set_option maxRecDepth 20000 in
theorem gX8_bow_X2_record : GoodIn wsX8_bow (wsV RX8 71 RX2 yX2_record wsX2_record) := goodIn_app (goodIn_of _ (by decide +kernel)) ggX8_bow_X2_record
set_option maxRecDepth 20000 in
theorem ggX8_bow_X4_append : GoodIn wsX8_bow wsX4_append := goodIn_r _ [55, 44, 56, 49, 50, 51, 79, 80, 81, 82, 83] (by decide +kernel) (by decide +kernel)
set_option maxRecDepth 20000 in
theorem gX8_bow_X4_append : GoodIn wsX8_bow (wsV RX8 138 RX4 yX4_append wsX4_append) := goodIn_app (goodIn_of _ (by decide +kernel)) ggX8_bow_X4_append
theorem dX8_bow_0 : decode cX8_bow 0 = .ok (.iload_n 1, 1) := by decide +kernel
theorem dX8_bow_1 : decode cX8_bow 1 = .ok (.iload_n 2, 1) := by decide +kernel
theorem dX8_bow_2 : decode cX8_bow 2 = .ok (.invokestatic 126, 3) := by decide +kernel
theorem dX8_bow_5 : decode cX8_bow 5 = .ok (.ifCond .ne 5, 3) := by decide +kernel
theorem dX8_bow_8 : decode cX8_bow 8 = .ok (.iconst (-1), 1) := by decide +kernel
theorem dX8_bow_9 : decode cX8_bow 9 = .ok (.ireturn, 1) := by decide +kernel
theorem dX8_bow_10 : decode cX8_bow 10 = .ok (.iload_n 3, 1) := by decide +kernel
theorem dX8_bow_11 : decode cX8_bow 11 = .ok (.iconst 1, 1) := by decide +kernel
theorem dX8_bow_12 : decode cX8_bow 12 = .ok (.if_icmp .lt 9, 3) := by decide +kernel
theorem dX8_bow_15 : decode cX8_bow 15 = .ok (.iload_n 3, 1) := by decide +kernel
theorem dX8_bow_16 : decode cX8_bow 16 = .ok (.bipush 20, 2) := by decide +kernel
theorem dX8_bow_18 : decode cX8_bow 18 = .ok (.if_icmp .le 6, 3) := by decide +kernel
theorem dX8_bow_21 : decode cX8_bow 21 = .ok (.bipush (-2), 2) := by decide +kernel
theorem dX8_bow_23 : decode cX8_bow 23 = .ok (.ireturn, 1) := by decide +kernel
theorem dX8_bow_24 : decode cX8_bow 24 = .ok (.aload_n 0, 1) := by decide +kernel
theorem dX8_bow_25 : decode cX8_bow 25 = .ok (.getfield 19, 3) := by decide +kernel
theorem dX8_bow_28 : decode cX8_bow 28 = .ok (.getfield 129, 3) := by decide +kernel
theorem dX8_bow_31 : decode cX8_bow 31 = .ok (.getfield 133, 3) := by decide +kernel
theorem dX8_bow_34 : decode cX8_bow 34 = .ok (.bipush 16, 2) := by decide +kernel
theorem dX8_bow_36 : decode cX8_bow 36 = .ok (.if_icmp .lt 6, 3) := by decide +kernel
theorem dX8_bow_39 : decode cX8_bow 39 = .ok (.bipush (-3), 2) := by decide +kernel
theorem dX8_bow_41 : decode cX8_bow 41 = .ok (.ireturn, 1) := by decide +kernel
theorem dX8_bow_42 : decode cX8_bow 42 = .ok (.aload_n 0, 1) := by decide +kernel
theorem dX8_bow_43 : decode cX8_bow 43 = .ok (.getfield 56, 3) := by decide +kernel
theorem dX8_bow_46 : decode cX8_bow 46 = .ok (.aload_n 0, 1) := by decide +kernel
theorem dX8_bow_47 : decode cX8_bow 47 = .ok (.getfield 19, 3) := by decide +kernel
theorem dX8_bow_50 : decode cX8_bow 50 = .ok (.invokevirtual 71, 3) := by decide +kernel
theorem dX8_bow_53 : decode cX8_bow 53 = .ok (.aload_n 0, 1) := by decide +kernel
theorem dX8_bow_54 : decode cX8_bow 54 = .ok (.getfield 19, 3) := by decide +kernel
theorem dX8_bow_57 : decode cX8_bow 57 = .ok (.getfield 129, 3) := by decide +kernel
theorem dX8_bow_60 : decode cX8_bow 60 = .ok (.iload_n 1, 1) := by decide +kernel
theorem dX8_bow_61 : decode cX8_bow 61 = .ok (.iload_n 2, 1) := by decide +kernel
theorem dX8_bow_62 : decode cX8_bow 62 = .ok (.iload_n 3, 1) := by decide +kernel
theorem dX8_bow_63 : decode cX8_bow 63 = .ok (.invokevirtual 138, 3) := by decide +kernel
theorem dX8_bow_66 : decode cX8_bow 66 = .ok (.aload_n 0, 1) := by decide +kernel
theorem dX8_bow_67 : decode cX8_bow 67 = .ok (.getfield 19, 3) := by decide +kernel
theorem dX8_bow_70 : decode cX8_bow 70 = .ok (.getfield 129, 3) := by decide +kernel
theorem dX8_bow_73 : decode cX8_bow 73 = .ok (.getfield 133, 3) := by decide +kernel
theorem dX8_bow_76 : decode cX8_bow 76 = .ok (.ireturn, 1) := by decide +kernel
set_option maxRecDepth 20000 in
theorem ggX8_bowAll_X6_read : GoodIn wsX8_bowAll wsX6_read := goodIn_r _ [8, 9, 10, 11, 12, 13, 7, 14, 15, 16, 17, 18, 19, 20, 21, 22, 23, 24, 25, 26, 27, 28, 29, 30, 31, 32, 33, 34, 35, 36, 37, 38, 39, 40, 110, 111, 112, 113, 105, 106, 107, 108, 109] (by decide +kernel) (by decide +kernel)
set_option maxRecDepth 20000 in
theorem gX8_bowAll_X6_read : GoodIn wsX8_bowAll (wsV RX8 142 RX6 yX6_read wsX6_read) := goodIn_app (goodIn_of _ (by decide +kernel)) ggX8_bowAll_X6_read
set_option maxRecDepth 20000 in
theorem ggX8_bowAll_X6_fault : GoodIn wsX8_bowAll wsX6_fault := goodIn_r _ [44, 9, 110, 111, 112, 113] (by decide +kernel) (by decide +kernel)
set_option maxRecDepth 20000 in
theorem gX8_bowAll_X6_fault : GoodIn wsX8_bowAll (wsV RX8 146 RX6 yX6_fault wsX6_fault) := goodIn_app (goodIn_of _ (by decide +kernel)) ggX8_bowAll_X6_fault
set_option maxRecDepth 20000 in
theorem ggX8_bowAll_X2_record : GoodIn wsX8_bowAll wsX2_record := goodIn_r _ [49, 50, 51, 52, 53, 54, 55, 56, 57, 58, 59, 60, 61, 62, 63, 64, 65, 66, 67, 68, 69, 70, 71, 72, 73, 74, 75, 76, 34, 77, 36, 78, 79, 80, 81, 38, 39, 40, 82, 32, 33, 35, 37, 114, 115, 116, 93, 94, 95, 96, 97, 98, 99, 100, 101, 102, 103, 104, 105, 106, 107, 108, 109] (by decide +kernel) (by decide +kernel)
set_option maxRecDepth 20000 in
theorem gX8_bowAll_X2_record : GoodIn wsX8_bowAll (wsV RX8 71 RX2 yX2_record wsX2_record) := goodIn_app (goodIn_of _ (by decide +kernel)) ggX8_bowAll_X2_record
set_option maxRecDepth 20000 in
theorem ggX8_bowAll_X4_appendAll : GoodIn wsX8_bowAll wsX4_appendAll := goodIn_r _ [81, 36, 38, 39, 40, 82, 32, 33, 34, 35, 37, 105, 106, 107, 108, 109] (by decide +kernel) (by decide +kernel)
set_option maxRecDepth 20000 in
theorem gX8_bowAll_X4_appendAll : GoodIn wsX8_bowAll (wsV RX8 150 RX4 yX4_appendAll wsX4_appendAll) := goodIn_app (goodIn_of _ (by decide +kernel)) ggX8_bowAll_X4_appendAll
theorem dX8_bowAll_0 : decode cX8_bowAll 0 = .ok (.aload_n 0, 1) := by decide +kernel
theorem dX8_bowAll_1 : decode cX8_bowAll 1 = .ok (.getfield 49, 3) := by decide +kernel
theorem dX8_bowAll_4 : decode cX8_bowAll 4 = .ok (.invokevirtual 142, 3) := by decide +kernel
theorem dX8_bowAll_7 : decode cX8_bowAll 7 = .ok (.ifCond .ne 14, 3) := by decide +kernel
theorem dX8_bowAll_10 : decode cX8_bowAll 10 = .ok (.bipush (-100), 2) := by decide +kernel
theorem dX8_bowAll_12 : decode cX8_bowAll 12 = .ok (.aload_n 0, 1) := by decide +kernel
theorem dX8_bowAll_13 : decode cX8_bowAll 13 = .ok (.getfield 49, 3) := by decide +kernel
theorem dX8_bowAll_16 : decode cX8_bowAll 16 = .ok (.invokevirtual 146, 3) := by decide +kernel
theorem dX8_bowAll_19 : decode cX8_bowAll 19 = .ok (.isub, 1) := by decide +kernel
theorem dX8_bowAll_20 : decode cX8_bowAll 20 = .ok (.ireturn, 1) := by decide +kernel
theorem dX8_bowAll_21 : decode cX8_bowAll 21 = .ok (.aload_n 0, 1) := by decide +kernel
theorem dX8_bowAll_22 : decode cX8_bowAll 22 = .ok (.getfield 19, 3) := by decide +kernel
theorem dX8_bowAll_25 : decode cX8_bowAll 25 = .ok (.getfield 129, 3) := by decide +kernel
theorem dX8_bowAll_28 : decode cX8_bowAll 28 = .ok (.getfield 133, 3) := by decide +kernel
theorem dX8_bowAll_31 : decode cX8_bowAll 31 = .ok (.aload_n 0, 1) := by decide +kernel
theorem dX8_bowAll_32 : decode cX8_bowAll 32 = .ok (.getfield 49, 3) := by decide +kernel
theorem dX8_bowAll_35 : decode cX8_bowAll 35 = .ok (.getfield 149, 3) := by decide +kernel
theorem dX8_bowAll_38 : decode cX8_bowAll 38 = .ok (.getfield 133, 3) := by decide +kernel
theorem dX8_bowAll_41 : decode cX8_bowAll 41 = .ok (.iadd, 1) := by decide +kernel
theorem dX8_bowAll_42 : decode cX8_bowAll 42 = .ok (.bipush 16, 2) := by decide +kernel
theorem dX8_bowAll_44 : decode cX8_bowAll 44 = .ok (.if_icmp .le 6, 3) := by decide +kernel
theorem dX8_bowAll_47 : decode cX8_bowAll 47 = .ok (.bipush (-3), 2) := by decide +kernel
theorem dX8_bowAll_49 : decode cX8_bowAll 49 = .ok (.ireturn, 1) := by decide +kernel
theorem dX8_bowAll_50 : decode cX8_bowAll 50 = .ok (.aload_n 0, 1) := by decide +kernel
theorem dX8_bowAll_51 : decode cX8_bowAll 51 = .ok (.getfield 56, 3) := by decide +kernel
theorem dX8_bowAll_54 : decode cX8_bowAll 54 = .ok (.aload_n 0, 1) := by decide +kernel
theorem dX8_bowAll_55 : decode cX8_bowAll 55 = .ok (.getfield 19, 3) := by decide +kernel
theorem dX8_bowAll_58 : decode cX8_bowAll 58 = .ok (.invokevirtual 71, 3) := by decide +kernel
theorem dX8_bowAll_61 : decode cX8_bowAll 61 = .ok (.aload_n 0, 1) := by decide +kernel
theorem dX8_bowAll_62 : decode cX8_bowAll 62 = .ok (.getfield 19, 3) := by decide +kernel
theorem dX8_bowAll_65 : decode cX8_bowAll 65 = .ok (.getfield 129, 3) := by decide +kernel
theorem dX8_bowAll_68 : decode cX8_bowAll 68 = .ok (.aload_n 0, 1) := by decide +kernel
theorem dX8_bowAll_69 : decode cX8_bowAll 69 = .ok (.getfield 49, 3) := by decide +kernel
theorem dX8_bowAll_72 : decode cX8_bowAll 72 = .ok (.getfield 149, 3) := by decide +kernel
theorem dX8_bowAll_75 : decode cX8_bowAll 75 = .ok (.invokevirtual 150, 3) := by decide +kernel
theorem dX8_bowAll_78 : decode cX8_bowAll 78 = .ok (.aload_n 0, 1) := by decide +kernel
theorem dX8_bowAll_79 : decode cX8_bowAll 79 = .ok (.getfield 49, 3) := by decide +kernel
theorem dX8_bowAll_82 : decode cX8_bowAll 82 = .ok (.getfield 149, 3) := by decide +kernel
theorem dX8_bowAll_85 : decode cX8_bowAll 85 = .ok (.getfield 133, 3) := by decide +kernel
theorem dX8_bowAll_88 : decode cX8_bowAll 88 = .ok (.ireturn, 1) := by decide +kernel
set_option maxRecDepth 20000 in
theorem ggX8_strike_X4_sizeAt : GoodIn wsX8_strike wsX4_sizeAt := goodIn_r _ [7, 8, 9, 79, 80, 81, 82, 83] (by decide +kernel) (by decide +kernel)
set_option maxRecDepth 20000 in
theorem gX8_strike_X4_sizeAt : GoodIn wsX8_strike (wsV RX8 154 RX4 yX4_sizeAt wsX4_sizeAt) := goodIn_app (goodIn_of _ (by decide +kernel)) ggX8_strike_X4_sizeAt
set_option maxRecDepth 20000 in
theorem ggX8_strike_X2_record : GoodIn wsX8_strike wsX2_record := goodIn_r _ [14, 15, 16, 17, 18, 19, 20, 21, 22, 23, 24, 25, 26, 27, 28, 29, 30, 31, 32, 33, 34, 35, 36, 37, 38, 39, 40, 41, 6, 42, 8, 43, 44, 45, 46, 9, 47, 48, 49, 50, 51, 52, 53, 84, 85, 86, 67, 68, 69, 70, 71, 72, 73, 74, 75, 76, 77, 78, 79, 80, 81, 82, 83] (by decide +kernel) (by decide +kernel)
set_option maxRecDepth 20000 in
theorem gX8_strike_X2_record : GoodIn wsX8_strike (wsV RX8 71 RX2 yX2_record wsX2_record) := goodIn_app (goodIn_of _ (by decide +kernel)) ggX8_strike_X2_record
set_option maxRecDepth 20000 in
theorem ggX8_strike_X4_dropSide : GoodIn wsX8_strike wsX4_dropSide := goodIn_r _ [57, 8, 9, 47, 48, 49, 50, 51, 6, 52, 53, 79, 80, 81, 82, 83] (by decide +kernel) (by decide +kernel)
set_option maxRecDepth 20000 in
theorem gX8_strike_X4_dropSide : GoodIn wsX8_strike (wsV RX8 158 RX4 yX4_dropSide wsX4_dropSide) := goodIn_app (goodIn_of _ (by decide +kernel)) ggX8_strike_X4_dropSide
theorem dX8_strike_0 : decode cX8_strike 0 = .ok (.iload_n 1, 1) := by decide +kernel
theorem dX8_strike_1 : decode cX8_strike 1 = .ok (.ifCond .lt 8, 3) := by decide +kernel
theorem dX8_strike_4 : decode cX8_strike 4 = .ok (.iload_n 1, 1) := by decide +kernel
theorem dX8_strike_5 : decode cX8_strike 5 = .ok (.iconst 4, 1) := by decide +kernel
theorem dX8_strike_6 : decode cX8_strike 6 = .ok (.if_icmp .lt 5, 3) := by decide +kernel
theorem dX8_strike_9 : decode cX8_strike 9 = .ok (.iconst (-1), 1) := by decide +kernel
theorem dX8_strike_10 : decode cX8_strike 10 = .ok (.ireturn, 1) := by decide +kernel
theorem dX8_strike_11 : decode cX8_strike 11 = .ok (.aload_n 0, 1) := by decide +kernel
theorem dX8_strike_12 : decode cX8_strike 12 = .ok (.getfield 19, 3) := by decide +kernel
theorem dX8_strike_15 : decode cX8_strike 15 = .ok (.getfield 129, 3) := by decide +kernel
theorem dX8_strike_18 : decode cX8_strike 18 = .ok (.iload_n 1, 1) := by decide +kernel
theorem dX8_strike_19 : decode cX8_strike 19 = .ok (.invokevirtual 154, 3) := by decide +kernel
theorem dX8_strike_22 : decode cX8_strike 22 = .ok (.ifCond .ne 6, 3) := by decide +kernel
theorem dX8_strike_25 : decode cX8_strike 25 = .ok (.bipush (-5), 2) := by decide +kernel
theorem dX8_strike_27 : decode cX8_strike 27 = .ok (.ireturn, 1) := by decide +kernel
theorem dX8_strike_28 : decode cX8_strike 28 = .ok (.aload_n 0, 1) := by decide +kernel
theorem dX8_strike_29 : decode cX8_strike 29 = .ok (.getfield 56, 3) := by decide +kernel
theorem dX8_strike_32 : decode cX8_strike 32 = .ok (.aload_n 0, 1) := by decide +kernel
theorem dX8_strike_33 : decode cX8_strike 33 = .ok (.getfield 19, 3) := by decide +kernel
theorem dX8_strike_36 : decode cX8_strike 36 = .ok (.invokevirtual 71, 3) := by decide +kernel
theorem dX8_strike_39 : decode cX8_strike 39 = .ok (.aload_n 0, 1) := by decide +kernel
theorem dX8_strike_40 : decode cX8_strike 40 = .ok (.getfield 19, 3) := by decide +kernel
theorem dX8_strike_43 : decode cX8_strike 43 = .ok (.getfield 129, 3) := by decide +kernel
theorem dX8_strike_46 : decode cX8_strike 46 = .ok (.iload_n 1, 1) := by decide +kernel
theorem dX8_strike_47 : decode cX8_strike 47 = .ok (.invokevirtual 158, 3) := by decide +kernel
theorem dX8_strike_50 : decode cX8_strike 50 = .ok (.ireturn, 1) := by decide +kernel
set_option maxRecDepth 20000 in
theorem ggX8_play_X2_record : GoodIn wsX8_play wsX2_record := goodIn_r _ [11, 12, 13, 14, 15, 16, 17, 18, 19, 20, 21, 22, 23, 24, 25, 26, 27, 28, 29, 30, 31, 32, 33, 34, 35, 36, 37, 38, 39, 40, 41, 42, 43, 44, 45, 46, 47, 48, 49, 50, 51, 52, 53, 166, 167, 168, 149, 150, 151, 152, 153, 154, 155, 156, 157, 158, 159, 160, 161, 162, 163, 164, 165] (by decide +kernel) (by decide +kernel)
set_option maxRecDepth 20000 in
theorem gX8_play_X2_record : GoodIn wsX8_play (wsV RX8 71 RX2 yX2_record wsX2_record) := goodIn_app (goodIn_of _ (by decide +kernel)) ggX8_play_X2_record
set_option maxRecDepth 20000 in
theorem ggX8_play_X8_playBowing : GoodIn wsX8_play wsX8_playBowing := goodIn_r _ [58, 59, 1, 60, 61, 62, 63, 64, 65, 66, 67, 68, 69, 70, 71, 72, 73, 74, 75, 76, 77, 78, 79, 80, 81, 82, 83, 84, 85, 86, 4, 87, 88, 57, 89, 90, 91, 92, 93, 94, 95, 96, 97, 98, 99, 100, 101, 102, 103, 104, 105, 106, 107, 108, 109, 110, 111, 112, 113, 114, 115, 116, 117, 118, 119, 120, 121, 122, 123, 124, 125, 126, 127, 128, 129, 130, 131, 132, 140, 141, 142, 143, 144, 145, 146, 147, 148, 149, 150, 151, 152, 153, 154, 155, 156, 157, 158, 159, 160, 161, 162, 163, 164, 165, 169, 170, 171, 172, 173, 174, 175, 176, 177, 178, 179, 180, 181, 182, 183] (by decide +kernel) (by decide +kernel)
set_option maxRecDepth 20000 in
theorem gX8_play_X8_playBowing : GoodIn wsX8_play (wsV RX8 166 RX8 yX8_playBowing wsX8_playBowing) := goodIn_app (goodIn_of _ (by decide +kernel)) ggX8_play_X8_playBowing
set_option maxRecDepth 20000 in
theorem ggX8_play_X4_dropFirst : GoodIn wsX8_play wsX4_dropFirst := goodIn_r _ [136, 41, 137, 138, 4, 139, 46, 47, 48, 49, 50, 51, 39, 52, 53, 161, 162, 163, 164, 165] (by decide +kernel) (by decide +kernel)
set_option maxRecDepth 20000 in
theorem gX8_play_X4_dropFirst : GoodIn wsX8_play (wsV RX8 169 RX4 yX4_dropFirst wsX4_dropFirst) := goodIn_app (goodIn_of _ (by decide +kernel)) ggX8_play_X4_dropFirst
theorem dX8_play_0 : decode cX8_play 0 = .ok (.iload_n 1, 1) := by decide +kernel
theorem dX8_play_1 : decode cX8_play 1 = .ok (.iconst 1, 1) := by decide +kernel
theorem dX8_play_2 : decode cX8_play 2 = .ok (.if_icmp .lt 9, 3) := by decide +kernel
theorem dX8_play_5 : decode cX8_play 5 = .ok (.iload_n 1, 1) := by decide +kernel
theorem dX8_play_6 : decode cX8_play 6 = .ok (.bipush 16, 2) := by decide +kernel
theorem dX8_play_8 : decode cX8_play 8 = .ok (.if_icmp .le 6, 3) := by decide +kernel
theorem dX8_play_11 : decode cX8_play 11 = .ok (.bipush (-2), 2) := by decide +kernel
theorem dX8_play_13 : decode cX8_play 13 = .ok (.ireturn, 1) := by decide +kernel
theorem dX8_play_14 : decode cX8_play 14 = .ok (.iload_n 1, 1) := by decide +kernel
theorem dX8_play_15 : decode cX8_play 15 = .ok (.aload_n 0, 1) := by decide +kernel
theorem dX8_play_16 : decode cX8_play 16 = .ok (.getfield 19, 3) := by decide +kernel
theorem dX8_play_19 : decode cX8_play 19 = .ok (.getfield 129, 3) := by decide +kernel
theorem dX8_play_22 : decode cX8_play 22 = .ok (.getfield 133, 3) := by decide +kernel
theorem dX8_play_25 : decode cX8_play 25 = .ok (.invokestatic 161, 3) := by decide +kernel
theorem dX8_play_28 : decode cX8_play 28 = .ok (.istore_n 2, 1) := by decide +kernel
theorem dX8_play_29 : decode cX8_play 29 = .ok (.iload_n 2, 1) := by decide +kernel
theorem dX8_play_30 : decode cX8_play 30 = .ok (.ifCond .ne 6, 3) := by decide +kernel
theorem dX8_play_33 : decode cX8_play 33 = .ok (.bipush (-5), 2) := by decide +kernel
theorem dX8_play_35 : decode cX8_play 35 = .ok (.ireturn, 1) := by decide +kernel
theorem dX8_play_36 : decode cX8_play 36 = .ok (.aload_n 0, 1) := by decide +kernel
theorem dX8_play_37 : decode cX8_play 37 = .ok (.getfield 56, 3) := by decide +kernel
theorem dX8_play_40 : decode cX8_play 40 = .ok (.aload_n 0, 1) := by decide +kernel
theorem dX8_play_41 : decode cX8_play 41 = .ok (.getfield 19, 3) := by decide +kernel
theorem dX8_play_44 : decode cX8_play 44 = .ok (.invokevirtual 71, 3) := by decide +kernel
theorem dX8_play_47 : decode cX8_play 47 = .ok (.iconst 0, 1) := by decide +kernel
theorem dX8_play_48 : decode cX8_play 48 = .ok (.istore_n 3, 1) := by decide +kernel
theorem dX8_play_49 : decode cX8_play 49 = .ok (.iconst 0, 1) := by decide +kernel
theorem dX8_play_50 : decode cX8_play 50 = .ok (.istore 4, 2) := by decide +kernel
theorem dX8_play_52 : decode cX8_play 52 = .ok (.iload 4, 2) := by decide +kernel
theorem dX8_play_54 : decode cX8_play 54 = .ok (.iload_n 2, 1) := by decide +kernel
theorem dX8_play_55 : decode cX8_play 55 = .ok (.if_icmp .ge 21, 3) := by decide +kernel
theorem dX8_play_58 : decode cX8_play 58 = .ok (.aload_n 0, 1) := by decide +kernel
theorem dX8_play_59 : decode cX8_play 59 = .ok (.iload 4, 2) := by decide +kernel
theorem dX8_play_61 : decode cX8_play 61 = .ok (.invokevirtual 166, 3) := by decide +kernel
theorem dX8_play_64 : decode cX8_play 64 = .ok (.ifCond .eq 6, 3) := by decide +kernel
theorem dX8_play_67 : decode cX8_play 67 = .ok (.iinc 3 1, 3) := by decide +kernel
theorem dX8_play_70 : decode cX8_play 70 = .ok (.iinc 4 1, 3) := by decide +kernel
theorem dX8_play_73 : decode cX8_play 73 = .ok (.goto (-21), 3) := by decide +kernel
theorem dX8_play_76 : decode cX8_play 76 = .ok (.aload_n 0, 1) := by decide +kernel
theorem dX8_play_77 : decode cX8_play 77 = .ok (.getfield 19, 3) := by decide +kernel
theorem dX8_play_80 : decode cX8_play 80 = .ok (.getfield 129, 3) := by decide +kernel
theorem dX8_play_83 : decode cX8_play 83 = .ok (.iload_n 2, 1) := by decide +kernel
theorem dX8_play_84 : decode cX8_play 84 = .ok (.invokevirtual 169, 3) := by decide +kernel
theorem dX8_play_87 : decode cX8_play 87 = .ok (.iload_n 3, 1) := by decide +kernel
theorem dX8_play_88 : decode cX8_play 88 = .ok (.ireturn, 1) := by decide +kernel
set_option maxRecDepth 20000 in
theorem ggX8_type_X6_append : GoodIn wsX8_type wsX6_append := goodIn_r _ [6, 7, 8, 18, 19, 20, 21] (by decide +kernel) (by decide +kernel)
set_option maxRecDepth 20000 in
theorem gX8_type_X6_append : GoodIn wsX8_type (wsV RX8 175 RX6 yX6_append wsX6_append) := goodIn_app (goodIn_of _ (by decide +kernel)) ggX8_type_X6_append
theorem dX8_type_0 : decode cX8_type 0 = .ok (.aload_n 0, 1) := by decide +kernel
theorem dX8_type_1 : decode cX8_type 1 = .ok (.getfield 49, 3) := by decide +kernel
theorem dX8_type_4 : decode cX8_type 4 = .ok (.getfield 172, 3) := by decide +kernel
theorem dX8_type_7 : decode cX8_type 7 = .ok (.bipush 60, 2) := by decide +kernel
theorem dX8_type_9 : decode cX8_type 9 = .ok (.if_icmp .lt 6, 3) := by decide +kernel
theorem dX8_type_12 : decode cX8_type 12 = .ok (.bipush (-3), 2) := by decide +kernel
theorem dX8_type_14 : decode cX8_type 14 = .ok (.ireturn, 1) := by decide +kernel
theorem dX8_type_15 : decode cX8_type 15 = .ok (.aload_n 0, 1) := by decide +kernel
theorem dX8_type_16 : decode cX8_type 16 = .ok (.getfield 49, 3) := by decide +kernel
theorem dX8_type_19 : decode cX8_type 19 = .ok (.iload_n 1, 1) := by decide +kernel
theorem dX8_type_20 : decode cX8_type 20 = .ok (.invokevirtual 175, 3) := by decide +kernel
theorem dX8_type_23 : decode cX8_type 23 = .ok (.aload_n 0, 1) := by decide +kernel
theorem dX8_type_24 : decode cX8_type 24 = .ok (.getfield 49, 3) := by decide +kernel
theorem dX8_type_27 : decode cX8_type 27 = .ok (.getfield 172, 3) := by decide +kernel
theorem dX8_type_30 : decode cX8_type 30 = .ok (.ireturn, 1) := by decide +kernel
theorem dX8_clearText_0 : decode cX8_clearText 0 = .ok (.aload_n 0, 1) := by decide +kernel
theorem dX8_clearText_1 : decode cX8_clearText 1 = .ok (.getfield 49, 3) := by decide +kernel
theorem dX8_clearText_4 : decode cX8_clearText 4 = .ok (.getfield 172, 3) := by decide +kernel
theorem dX8_clearText_7 : decode cX8_clearText 7 = .ok (.istore_n 1, 1) := by decide +kernel
theorem dX8_clearText_8 : decode cX8_clearText 8 = .ok (.aload_n 0, 1) := by decide +kernel
theorem dX8_clearText_9 : decode cX8_clearText 9 = .ok (.getfield 49, 3) := by decide +kernel
theorem dX8_clearText_12 : decode cX8_clearText 12 = .ok (.iconst 0, 1) := by decide +kernel
theorem dX8_clearText_13 : decode cX8_clearText 13 = .ok (.putfield 172, 3) := by decide +kernel
theorem dX8_clearText_16 : decode cX8_clearText 16 = .ok (.iload_n 1, 1) := by decide +kernel
theorem dX8_clearText_17 : decode cX8_clearText 17 = .ok (.ireturn, 1) := by decide +kernel
set_option maxRecDepth 20000 in
theorem ggX8_undo_X2_takeLatest : GoodIn wsX8_undo wsX2_takeLatest := goodIn_r _ [7, 8, 9, 10, 11, 12, 13, 14, 15, 16, 17, 18, 19, 20, 21, 22, 23, 24, 25, 26, 27, 28, 29, 30, 31, 32, 33, 34, 35, 36, 37, 38, 39, 40, 41, 42, 43, 44, 45, 46, 47, 48, 49, 59, 60, 61, 62, 63, 64, 65, 66, 67, 68, 69, 70, 71, 72, 73, 74, 75, 76, 77, 78] (by decide +kernel) (by decide +kernel)
set_option maxRecDepth 20000 in
theorem gX8_undo_X2_takeLatest : GoodIn wsX8_undo (wsV RX8 181 RX2 yX2_takeLatest wsX2_takeLatest) := goodIn_app (goodIn_of _ (by decide +kernel)) ggX8_undo_X2_takeLatest
end
section
theorem dX8_undo_0 : decode cX8_undo 0 = .ok (.aload_n 0, 1) := by decide +kernel
theorem dX8_undo_1 : decode cX8_undo 1 = .ok (.getfield 56, 3) := by decide +kernel
theorem dX8_undo_4 : decode cX8_undo 4 = .ok (.getfield 178, 3) := by decide +kernel
theorem dX8_undo_7 : decode cX8_undo 7 = .ok (.ifCond .ne 6, 3) := by decide +kernel
theorem dX8_undo_10 : decode cX8_undo 10 = .ok (.bipush (-5), 2) := by decide +kernel
theorem dX8_undo_12 : decode cX8_undo 12 = .ok (.ireturn, 1) := by decide +kernel
theorem dX8_undo_13 : decode cX8_undo 13 = .ok (.aload_n 0, 1) := by decide +kernel
theorem dX8_undo_14 : decode cX8_undo 14 = .ok (.getfield 56, 3) := by decide +kernel
theorem dX8_undo_17 : decode cX8_undo 17 = .ok (.aload_n 0, 1) := by decide +kernel
theorem dX8_undo_18 : decode cX8_undo 18 = .ok (.getfield 19, 3) := by decide +kernel
theorem dX8_undo_21 : decode cX8_undo 21 = .ok (.invokevirtual 181, 3) := by decide +kernel
theorem dX8_undo_24 : decode cX8_undo 24 = .ok (.aload_n 0, 1) := by decide +kernel
theorem dX8_undo_25 : decode cX8_undo 25 = .ok (.getfield 56, 3) := by decide +kernel
theorem dX8_undo_28 : decode cX8_undo 28 = .ok (.getfield 178, 3) := by decide +kernel
theorem dX8_undo_31 : decode cX8_undo 31 = .ok (.ireturn, 1) := by decide +kernel
set_option maxRecDepth 20000 in
theorem ggX8_keep_X5_copyFrom : GoodIn wsX8_keep wsX5_copyFrom := goodIn_r _ [8, 9, 10, 11, 12, 13, 14, 15, 16, 17, 18, 19, 20, 21, 22, 23, 24, 25, 26, 27, 28, 29, 30, 31, 32, 33, 34, 35, 36, 37, 38, 39, 40, 41, 42, 56, 57, 58, 59, 60, 61, 62, 63, 64, 65, 66, 67, 68, 69, 70, 71, 72] (by decide +kernel) (by decide +kernel)
set_option maxRecDepth 20000 in
theorem gX8_keep_X5_copyFrom : GoodIn wsX8_keep (wsV RX8 184 RX5 yX5_copyFrom wsX5_copyFrom) := goodIn_app (goodIn_of _ (by decide +kernel)) ggX8_keep_X5_copyFrom
set_option maxRecDepth 20000 in
theorem ggX8_keep_X5_allGrains : GoodIn wsX8_keep wsX5_allGrains := goodIn_r _ [46, 9, 56, 57, 58, 59, 60, 61, 62, 63, 64, 65, 66, 67] (by decide +kernel) (by decide +kernel)
set_option maxRecDepth 20000 in
theorem gX8_keep_X5_allGrains : GoodIn wsX8_keep (wsV RX8 87 RX5 yX5_allGrains wsX5_allGrains) := goodIn_app (goodIn_of _ (by decide +kernel)) ggX8_keep_X5_allGrains
theorem dX8_keep_0 : decode cX8_keep 0 = .ok (.aload_n 0, 1) := by decide +kernel
theorem dX8_keep_1 : decode cX8_keep 1 = .ok (.getfield 60, 3) := by decide +kernel
theorem dX8_keep_4 : decode cX8_keep 4 = .ok (.aload_n 0, 1) := by decide +kernel
theorem dX8_keep_5 : decode cX8_keep 5 = .ok (.getfield 19, 3) := by decide +kernel
theorem dX8_keep_8 : decode cX8_keep 8 = .ok (.invokevirtual 184, 3) := by decide +kernel
theorem dX8_keep_11 : decode cX8_keep 11 = .ok (.aload_n 0, 1) := by decide +kernel
theorem dX8_keep_12 : decode cX8_keep 12 = .ok (.iconst 1, 1) := by decide +kernel
theorem dX8_keep_13 : decode cX8_keep 13 = .ok (.putfield 63, 3) := by decide +kernel
theorem dX8_keep_16 : decode cX8_keep 16 = .ok (.aload_n 0, 1) := by decide +kernel
theorem dX8_keep_17 : decode cX8_keep 17 = .ok (.getfield 19, 3) := by decide +kernel
theorem dX8_keep_20 : decode cX8_keep 20 = .ok (.invokevirtual 87, 3) := by decide +kernel
theorem dX8_keep_23 : decode cX8_keep 23 = .ok (.ireturn, 1) := by decide +kernel
set_option maxRecDepth 20000 in
theorem ggX8_restore_X2_record : GoodIn wsX8_restore wsX2_record := goodIn_r _ [9, 10, 11, 12, 13, 14, 15, 16, 17, 18, 19, 20, 21, 22, 23, 24, 25, 26, 27, 28, 29, 30, 31, 32, 33, 34, 35, 36, 37, 38, 39, 40, 41, 42, 43, 44, 45, 46, 47, 48, 49, 50, 51, 66, 67, 68, 69, 70, 71, 72, 73, 74, 75, 76, 77, 78, 79, 80, 81, 82, 83, 84, 85] (by decide +kernel) (by decide +kernel)
set_option maxRecDepth 20000 in
theorem gX8_restore_X2_record : GoodIn wsX8_restore (wsV RX8 71 RX2 yX2_record wsX2_record) := goodIn_app (goodIn_of _ (by decide +kernel)) ggX8_restore_X2_record
set_option maxRecDepth 20000 in
theorem ggX8_restore_X5_copyFrom : GoodIn wsX8_restore wsX5_copyFrom := goodIn_r _ [17, 18, 19, 20, 21, 22, 23, 24, 25, 26, 27, 28, 29, 30, 31, 32, 33, 34, 35, 36, 37, 38, 39, 40, 41, 42, 43, 44, 45, 46, 47, 48, 49, 50, 51, 69, 70, 71, 72, 73, 74, 75, 76, 77, 78, 79, 80, 81, 82, 83, 84, 85] (by decide +kernel) (by decide +kernel)
set_option maxRecDepth 20000 in
theorem gX8_restore_X5_copyFrom : GoodIn wsX8_restore (wsV RX8 184 RX5 yX5_copyFrom wsX5_copyFrom) := goodIn_app (goodIn_of _ (by decide +kernel)) ggX8_restore_X5_copyFrom
set_option maxRecDepth 20000 in
theorem ggX8_restore_X5_allGrains : GoodIn wsX8_restore wsX5_allGrains := goodIn_r _ [56, 18, 69, 70, 71, 72, 73, 74, 75, 76, 77, 78, 79, 80] (by decide +kernel) (by decide +kernel)
set_option maxRecDepth 20000 in
theorem gX8_restore_X5_allGrains : GoodIn wsX8_restore (wsV RX8 87 RX5 yX5_allGrains wsX5_allGrains) := goodIn_app (goodIn_of _ (by decide +kernel)) ggX8_restore_X5_allGrains
theorem dX8_restore_0 : decode cX8_restore 0 = .ok (.aload_n 0, 1) := by decide +kernel
theorem dX8_restore_1 : decode cX8_restore 1 = .ok (.getfield 63, 3) := by decide +kernel
theorem dX8_restore_4 : decode cX8_restore 4 = .ok (.ifCond .ne 6, 3) := by decide +kernel
theorem dX8_restore_7 : decode cX8_restore 7 = .ok (.bipush (-5), 2) := by decide +kernel
theorem dX8_restore_9 : decode cX8_restore 9 = .ok (.ireturn, 1) := by decide +kernel
theorem dX8_restore_10 : decode cX8_restore 10 = .ok (.aload_n 0, 1) := by decide +kernel
theorem dX8_restore_11 : decode cX8_restore 11 = .ok (.getfield 56, 3) := by decide +kernel
theorem dX8_restore_14 : decode cX8_restore 14 = .ok (.aload_n 0, 1) := by decide +kernel
theorem dX8_restore_15 : decode cX8_restore 15 = .ok (.getfield 19, 3) := by decide +kernel
theorem dX8_restore_18 : decode cX8_restore 18 = .ok (.invokevirtual 71, 3) := by decide +kernel
theorem dX8_restore_21 : decode cX8_restore 21 = .ok (.aload_n 0, 1) := by decide +kernel
theorem dX8_restore_22 : decode cX8_restore 22 = .ok (.getfield 19, 3) := by decide +kernel
theorem dX8_restore_25 : decode cX8_restore 25 = .ok (.aload_n 0, 1) := by decide +kernel
theorem dX8_restore_26 : decode cX8_restore 26 = .ok (.getfield 60, 3) := by decide +kernel
theorem dX8_restore_29 : decode cX8_restore 29 = .ok (.invokevirtual 184, 3) := by decide +kernel
theorem dX8_restore_32 : decode cX8_restore 32 = .ok (.aload_n 0, 1) := by decide +kernel
theorem dX8_restore_33 : decode cX8_restore 33 = .ok (.getfield 19, 3) := by decide +kernel
theorem dX8_restore_36 : decode cX8_restore 36 = .ok (.invokevirtual 87, 3) := by decide +kernel
theorem dX8_restore_39 : decode cX8_restore 39 = .ok (.ireturn, 1) := by decide +kernel
set_option maxRecDepth 20000 in
theorem ggX8_place_X8_isPlace : GoodIn wsX8_place wsX8_isPlace := goodIn_r _ [7] (by decide +kernel) (by decide +kernel)
set_option maxRecDepth 20000 in
theorem gX8_place_X8_isPlace : GoodIn wsX8_place (va_wsS RX8 67 yX8_isPlace wsX8_isPlace) := goodIn_app (goodIn_of _ (by decide +kernel)) ggX8_place_X8_isPlace
set_option maxRecDepth 20000 in
theorem ggX8_place_X8_placeOf : GoodIn wsX8_place wsX8_placeOf := goodIn_r _ [10] (by decide +kernel) (by decide +kernel)
set_option maxRecDepth 20000 in
theorem gX8_place_X8_placeOf : GoodIn wsX8_place (va_wsS RX8 75 yX8_placeOf wsX8_placeOf) := goodIn_app (goodIn_of _ (by decide +kernel)) ggX8_place_X8_placeOf
set_option maxRecDepth 20000 in
theorem ggX8_place_X8_isWay : GoodIn wsX8_place wsX8_isWay := goodIn_r _ [13] (by decide +kernel) (by decide +kernel)
set_option maxRecDepth 20000 in
theorem gX8_place_X8_isWay : GoodIn wsX8_place (va_wsS RX8 190 yX8_isWay wsX8_isWay) := goodIn_app (goodIn_of _ (by decide +kernel)) ggX8_place_X8_isWay
set_option maxRecDepth 20000 in
theorem ggX8_place_X7_swingAt : GoodIn wsX8_place wsX7_swingAt := goodIn_r _ [18, 19, 20, 21, 22, 23, 24, 25, 26, 12, 6, 13, 5, 7, 70, 71, 72, 73, 74] (by decide +kernel) (by decide +kernel)
set_option maxRecDepth 20000 in
theorem gX8_place_X7_swingAt : GoodIn wsX8_place (wsV RX8 193 RX7 yX7_swingAt wsX7_swingAt) := goodIn_app (goodIn_of _ (by decide +kernel)) ggX8_place_X7_swingAt
set_option maxRecDepth 20000 in
theorem ggX8_place_X1_isStill : GoodIn wsX8_place wsX1_isStill := goodIn_r _ [31, 32, 33, 34, 15, 16, 17, 18, 19, 20, 21, 22, 23, 24, 25, 26, 12, 6, 13, 5, 7, 75, 76, 77, 78, 79, 58, 59, 60, 61, 62, 63, 64, 65, 66, 67, 68, 69, 70, 71, 72, 73, 74] (by decide +kernel) (by decide +kernel)
set_option maxRecDepth 20000 in
theorem gX8_place_X1_isStill : GoodIn wsX8_place (wsV RX8 197 RX1 yX1_isStill wsX1_isStill) := goodIn_app (goodIn_of _ (by decide +kernel)) ggX8_place_X1_isStill
set_option maxRecDepth 20000 in
theorem ggX8_place_X8_asNumber : GoodIn wsX8_place wsX8_asNumber := goodIn_r _ [37] (by decide +kernel) (by decide +kernel)
set_option maxRecDepth 20000 in
theorem gX8_place_X8_asNumber : GoodIn wsX8_place (va_wsS RX8 201 yX8_asNumber wsX8_asNumber) := goodIn_app (goodIn_of _ (by decide +kernel)) ggX8_place_X8_asNumber
set_option maxRecDepth 20000 in
theorem ggX8_place_X5_clampOn : GoodIn wsX8_place wsX5_clampOn := goodIn_r _ [42, 43, 44, 45, 58, 59, 60, 61, 62, 63, 64, 65, 66, 67, 68, 69] (by decide +kernel) (by decide +kernel)
set_option maxRecDepth 20000 in
theorem gX8_place_X5_clampOn : GoodIn wsX8_place (wsV RX8 101 RX5 yX5_clampOn wsX5_clampOn) := goodIn_app (goodIn_of _ (by decide +kernel)) ggX8_place_X5_clampOn
set_option maxRecDepth 20000 in
theorem ggX8_place_X8_orNone : GoodIn wsX8_place wsX8_orNone := goodIn_r _ [48] (by decide +kernel) (by decide +kernel)
set_option maxRecDepth 20000 in
theorem gX8_place_X8_orNone : GoodIn wsX8_place (va_wsS RX8 205 yX8_orNone wsX8_orNone) := goodIn_app (goodIn_of _ (by decide +kernel)) ggX8_place_X8_orNone
theorem dX8_place_0 : decode cX8_place 0 = .ok (.iload_n 1, 1) := by decide +kernel
theorem dX8_place_1 : decode cX8_place 1 = .ok (.iload_n 2, 1) := by decide +kernel
theorem dX8_place_2 : decode cX8_place 2 = .ok (.invokestatic 67, 3) := by decide +kernel
theorem dX8_place_5 : decode cX8_place 5 = .ok (.ifCond .ne 5, 3) := by decide +kernel
theorem dX8_place_8 : decode cX8_place 8 = .ok (.iconst (-1), 1) := by decide +kernel
theorem dX8_place_9 : decode cX8_place 9 = .ok (.ireturn, 1) := by decide +kernel
theorem dX8_place_10 : decode cX8_place 10 = .ok (.iload_n 3, 1) := by decide +kernel
theorem dX8_place_11 : decode cX8_place 11 = .ok (.tableswitch 129 0 3 #[29, 43, 78, 116], 29) := by decide +kernel
theorem dX8_place_40 : decode cX8_place 40 = .ok (.aload_n 0, 1) := by decide +kernel
theorem dX8_place_41 : decode cX8_place 41 = .ok (.getfield 19, 3) := by decide +kernel
theorem dX8_place_44 : decode cX8_place 44 = .ok (.getfield 79, 3) := by decide +kernel
theorem dX8_place_47 : decode cX8_place 47 = .ok (.iload_n 1, 1) := by decide +kernel
theorem dX8_place_48 : decode cX8_place 48 = .ok (.iload_n 2, 1) := by decide +kernel
theorem dX8_place_49 : decode cX8_place 49 = .ok (.invokestatic 75, 3) := by decide +kernel
theorem dX8_place_52 : decode cX8_place 52 = .ok (.iaload, 1) := by decide +kernel
theorem dX8_place_53 : decode cX8_place 53 = .ok (.ireturn, 1) := by decide +kernel
theorem dX8_place_54 : decode cX8_place 54 = .ok (.aload_n 0, 1) := by decide +kernel
theorem dX8_place_55 : decode cX8_place 55 = .ok (.getfield 19, 3) := by decide +kernel
theorem dX8_place_58 : decode cX8_place 58 = .ok (.getfield 187, 3) := by decide +kernel
theorem dX8_place_61 : decode cX8_place 61 = .ok (.invokestatic 190, 3) := by decide +kernel
theorem dX8_place_64 : decode cX8_place 64 = .ok (.ifCond .eq 22, 3) := by decide +kernel
theorem dX8_place_67 : decode cX8_place 67 = .ok (.aload_n 0, 1) := by decide +kernel
theorem dX8_place_68 : decode cX8_place 68 = .ok (.getfield 12, 3) := by decide +kernel
theorem dX8_place_71 : decode cX8_place 71 = .ok (.aload_n 0, 1) := by decide +kernel
theorem dX8_place_72 : decode cX8_place 72 = .ok (.getfield 19, 3) := by decide +kernel
theorem dX8_place_75 : decode cX8_place 75 = .ok (.getfield 187, 3) := by decide +kernel
theorem dX8_place_78 : decode cX8_place 78 = .ok (.iload_n 1, 1) := by decide +kernel
theorem dX8_place_79 : decode cX8_place 79 = .ok (.iload_n 2, 1) := by decide +kernel
theorem dX8_place_80 : decode cX8_place 80 = .ok (.invokevirtual 193, 3) := by decide +kernel
theorem dX8_place_83 : decode cX8_place 83 = .ok (.goto 5, 3) := by decide +kernel
theorem dX8_place_86 : decode cX8_place 86 = .ok (.bipush (-5), 2) := by decide +kernel
theorem dX8_place_88 : decode cX8_place 88 = .ok (.ireturn, 1) := by decide +kernel
theorem dX8_place_89 : decode cX8_place 89 = .ok (.aload_n 0, 1) := by decide +kernel
theorem dX8_place_90 : decode cX8_place 90 = .ok (.getfield 19, 3) := by decide +kernel
theorem dX8_place_93 : decode cX8_place 93 = .ok (.getfield 187, 3) := by decide +kernel
theorem dX8_place_96 : decode cX8_place 96 = .ok (.invokestatic 190, 3) := by decide +kernel
theorem dX8_place_99 : decode cX8_place 99 = .ok (.ifCond .eq 25, 3) := by decide +kernel
theorem dX8_place_102 : decode cX8_place 102 = .ok (.aload_n 0, 1) := by decide +kernel
theorem dX8_place_103 : decode cX8_place 103 = .ok (.getfield 35, 3) := by decide +kernel
theorem dX8_place_106 : decode cX8_place 106 = .ok (.aload_n 0, 1) := by decide +kernel
theorem dX8_place_107 : decode cX8_place 107 = .ok (.getfield 19, 3) := by decide +kernel
theorem dX8_place_110 : decode cX8_place 110 = .ok (.getfield 187, 3) := by decide +kernel
theorem dX8_place_113 : decode cX8_place 113 = .ok (.iload_n 1, 1) := by decide +kernel
theorem dX8_place_114 : decode cX8_place 114 = .ok (.iload_n 2, 1) := by decide +kernel
theorem dX8_place_115 : decode cX8_place 115 = .ok (.invokevirtual 197, 3) := by decide +kernel
theorem dX8_place_118 : decode cX8_place 118 = .ok (.invokestatic 201, 3) := by decide +kernel
theorem dX8_place_121 : decode cX8_place 121 = .ok (.goto 5, 3) := by decide +kernel
theorem dX8_place_124 : decode cX8_place 124 = .ok (.bipush (-5), 2) := by decide +kernel
theorem dX8_place_126 : decode cX8_place 126 = .ok (.ireturn, 1) := by decide +kernel
theorem dX8_place_127 : decode cX8_place 127 = .ok (.aload_n 0, 1) := by decide +kernel
theorem dX8_place_128 : decode cX8_place 128 = .ok (.getfield 19, 3) := by decide +kernel
theorem dX8_place_131 : decode cX8_place 131 = .ok (.iload_n 1, 1) := by decide +kernel
theorem dX8_place_132 : decode cX8_place 132 = .ok (.iload_n 2, 1) := by decide +kernel
theorem dX8_place_133 : decode cX8_place 133 = .ok (.invokevirtual 101, 3) := by decide +kernel
theorem dX8_place_136 : decode cX8_place 136 = .ok (.invokestatic 205, 3) := by decide +kernel
theorem dX8_place_139 : decode cX8_place 139 = .ok (.ireturn, 1) := by decide +kernel
theorem dX8_place_140 : decode cX8_place 140 = .ok (.bipush (-2), 2) := by decide +kernel
theorem dX8_place_142 : decode cX8_place 142 = .ok (.ireturn, 1) := by decide +kernel
set_option maxRecDepth 20000 in
theorem ggX8_way_X8_isWay : GoodIn wsX8_way wsX8_isWay := goodIn_r _ [7] (by decide +kernel) (by decide +kernel)
set_option maxRecDepth 20000 in
theorem gX8_way_X8_isWay : GoodIn wsX8_way (va_wsS RX8 190 yX8_isWay wsX8_isWay) := goodIn_app (goodIn_of _ (by decide +kernel)) ggX8_way_X8_isWay
set_option maxRecDepth 20000 in
theorem ggX8_way_X7_noteOf : GoodIn wsX8_way wsX7_noteOf := goodIn_r _ [12, 13, 14, 15, 5, 6, 7, 83, 84, 85, 86, 87] (by decide +kernel) (by decide +kernel)
set_option maxRecDepth 20000 in
theorem gX8_way_X7_noteOf : GoodIn wsX8_way (wsV RX8 217 RX7 yX7_noteOf wsX7_noteOf) := goodIn_app (goodIn_of _ (by decide +kernel)) ggX8_way_X7_noteOf
set_option maxRecDepth 20000 in
theorem ggX8_way_X1_stillPlaces : GoodIn wsX8_way wsX1_stillPlaces := goodIn_r _ [20, 21, 6, 22, 23, 24, 25, 26, 27, 19, 28, 29, 30, 31, 32, 33, 11, 34, 13, 14, 35, 15, 36, 37, 38, 39, 5, 7, 40, 41, 88, 89, 90, 91, 92, 93, 94, 95, 96, 97, 98, 99, 100, 101, 102, 103, 104, 83, 84, 85, 86, 87] (by decide +kernel) (by decide +kernel)
set_option maxRecDepth 20000 in
theorem gX8_way_X1_stillPlaces : GoodIn wsX8_way (wsV RX8 220 RX1 yX1_stillPlaces wsX1_stillPlaces) := goodIn_app (goodIn_of _ (by decide +kernel)) ggX8_way_X1_stillPlaces
set_option maxRecDepth 20000 in
theorem ggX8_way_X1_lines : GoodIn wsX8_way wsX1_lines := goodIn_r _ [45, 46, 21, 6, 22, 23, 24, 25, 26, 27, 19, 28, 29, 30, 31, 32, 33, 11, 34, 13, 14, 35, 15, 36, 37, 38, 39, 5, 7, 40, 41, 47, 48, 49, 50, 51, 52, 53, 54, 55, 56, 57, 58, 88, 89, 90, 91, 92, 93, 94, 95, 96, 97, 98, 99, 100, 101, 102, 103, 104, 83, 84, 85, 86, 87] (by decide +kernel) (by decide +kernel)
set_option maxRecDepth 20000 in
theorem gX8_way_X1_lines : GoodIn wsX8_way (wsV RX8 223 RX1 yX1_lines wsX1_lines) := goodIn_app (goodIn_of _ (by decide +kernel)) ggX8_way_X1_lines
set_option maxRecDepth 20000 in
theorem ggX8_way_X1_grainsOnLines : GoodIn wsX8_way wsX1_grainsOnLines := goodIn_r _ [62, 30, 21, 6, 22, 23, 24, 25, 26, 27, 19, 28, 29, 31, 32, 33, 11, 34, 13, 14, 35, 15, 36, 37, 38, 39, 5, 7, 40, 41, 88, 89, 90, 91, 92, 93, 94, 95, 96, 97, 98, 99, 100, 101, 102, 103, 104, 83, 84, 85, 86, 87] (by decide +kernel) (by decide +kernel)
set_option maxRecDepth 20000 in
theorem gX8_way_X1_grainsOnLines : GoodIn wsX8_way (wsV RX8 226 RX1 yX1_grainsOnLines wsX1_grainsOnLines) := goodIn_app (goodIn_of _ (by decide +kernel)) ggX8_way_X1_grainsOnLines
set_option maxRecDepth 20000 in
theorem ggX8_way_X0_clampsAllow : GoodIn wsX8_way wsX0_clampsAllow := goodIn_r _ [67, 68, 69, 70, 32, 33, 11, 34, 13, 14, 35, 15, 36, 37, 38, 39, 5, 6, 7, 40, 41, 105, 106, 107, 108, 109, 93, 94, 95, 96, 97, 98, 99, 100, 101, 102, 103, 104, 83, 84, 85, 86, 87] (by decide +kernel) (by decide +kernel)
set_option maxRecDepth 20000 in
theorem gX8_way_X0_clampsAllow : GoodIn wsX8_way (wsV RX8 229 RX0 yX0_clampsAllow wsX0_clampsAllow) := goodIn_app (goodIn_of _ (by decide +kernel)) ggX8_way_X0_clampsAllow
set_option maxRecDepth 20000 in
theorem ggX8_way_X8_asNumber : GoodIn wsX8_way wsX8_asNumber := goodIn_r _ [73] (by decide +kernel) (by decide +kernel)
set_option maxRecDepth 20000 in
theorem gX8_way_X8_asNumber : GoodIn wsX8_way (va_wsS RX8 201 yX8_asNumber wsX8_asNumber) := goodIn_app (goodIn_of _ (by decide +kernel)) ggX8_way_X8_asNumber
theorem dX8_way_0 : decode cX8_way 0 = .ok (.iload_n 1, 1) := by decide +kernel
theorem dX8_way_1 : decode cX8_way 1 = .ok (.invokestatic 190, 3) := by decide +kernel
theorem dX8_way_4 : decode cX8_way 4 = .ok (.ifCond .ne 5, 3) := by decide +kernel
theorem dX8_way_7 : decode cX8_way 7 = .ok (.iconst (-1), 1) := by decide +kernel
theorem dX8_way_8 : decode cX8_way 8 = .ok (.ireturn, 1) := by decide +kernel
theorem dX8_way_9 : decode cX8_way 9 = .ok (.iload_n 2, 1) := by decide +kernel
theorem dX8_way_10 : decode cX8_way 10 = .ok (.tableswitch 124 0 7 #[46, 56, 66, 76, 85, 94, 103, 112], 46) := by decide +kernel
theorem dX8_way_56 : decode cX8_way 56 = .ok (.aload_n 0, 1) := by decide +kernel
theorem dX8_way_57 : decode cX8_way 57 = .ok (.getfield 12, 3) := by decide +kernel
theorem dX8_way_60 : decode cX8_way 60 = .ok (.getfield 208, 3) := by decide +kernel
theorem dX8_way_63 : decode cX8_way 63 = .ok (.iload_n 1, 1) := by decide +kernel
theorem dX8_way_64 : decode cX8_way 64 = .ok (.iaload, 1) := by decide +kernel
theorem dX8_way_65 : decode cX8_way 65 = .ok (.ireturn, 1) := by decide +kernel
theorem dX8_way_66 : decode cX8_way 66 = .ok (.aload_n 0, 1) := by decide +kernel
theorem dX8_way_67 : decode cX8_way 67 = .ok (.getfield 12, 3) := by decide +kernel
theorem dX8_way_70 : decode cX8_way 70 = .ok (.getfield 211, 3) := by decide +kernel
theorem dX8_way_73 : decode cX8_way 73 = .ok (.iload_n 1, 1) := by decide +kernel
theorem dX8_way_74 : decode cX8_way 74 = .ok (.iaload, 1) := by decide +kernel
theorem dX8_way_75 : decode cX8_way 75 = .ok (.ireturn, 1) := by decide +kernel
theorem dX8_way_76 : decode cX8_way 76 = .ok (.aload_n 0, 1) := by decide +kernel
theorem dX8_way_77 : decode cX8_way 77 = .ok (.getfield 12, 3) := by decide +kernel
theorem dX8_way_80 : decode cX8_way 80 = .ok (.getfield 214, 3) := by decide +kernel
theorem dX8_way_83 : decode cX8_way 83 = .ok (.iload_n 1, 1) := by decide +kernel
theorem dX8_way_84 : decode cX8_way 84 = .ok (.iaload, 1) := by decide +kernel
theorem dX8_way_85 : decode cX8_way 85 = .ok (.ireturn, 1) := by decide +kernel
theorem dX8_way_86 : decode cX8_way 86 = .ok (.aload_n 0, 1) := by decide +kernel
theorem dX8_way_87 : decode cX8_way 87 = .ok (.getfield 12, 3) := by decide +kernel
theorem dX8_way_90 : decode cX8_way 90 = .ok (.iload_n 1, 1) := by decide +kernel
theorem dX8_way_91 : decode cX8_way 91 = .ok (.invokevirtual 217, 3) := by decide +kernel
theorem dX8_way_94 : decode cX8_way 94 = .ok (.ireturn, 1) := by decide +kernel
theorem dX8_way_95 : decode cX8_way 95 = .ok (.aload_n 0, 1) := by decide +kernel
theorem dX8_way_96 : decode cX8_way 96 = .ok (.getfield 35, 3) := by decide +kernel
theorem dX8_way_99 : decode cX8_way 99 = .ok (.iload_n 1, 1) := by decide +kernel
theorem dX8_way_100 : decode cX8_way 100 = .ok (.invokevirtual 220, 3) := by decide +kernel
theorem dX8_way_103 : decode cX8_way 103 = .ok (.ireturn, 1) := by decide +kernel
theorem dX8_way_104 : decode cX8_way 104 = .ok (.aload_n 0, 1) := by decide +kernel
theorem dX8_way_105 : decode cX8_way 105 = .ok (.getfield 35, 3) := by decide +kernel
theorem dX8_way_108 : decode cX8_way 108 = .ok (.iload_n 1, 1) := by decide +kernel
theorem dX8_way_109 : decode cX8_way 109 = .ok (.invokevirtual 223, 3) := by decide +kernel
theorem dX8_way_112 : decode cX8_way 112 = .ok (.ireturn, 1) := by decide +kernel
theorem dX8_way_113 : decode cX8_way 113 = .ok (.aload_n 0, 1) := by decide +kernel
theorem dX8_way_114 : decode cX8_way 114 = .ok (.getfield 35, 3) := by decide +kernel
theorem dX8_way_117 : decode cX8_way 117 = .ok (.iload_n 1, 1) := by decide +kernel
theorem dX8_way_118 : decode cX8_way 118 = .ok (.invokevirtual 226, 3) := by decide +kernel
theorem dX8_way_121 : decode cX8_way 121 = .ok (.ireturn, 1) := by decide +kernel
theorem dX8_way_122 : decode cX8_way 122 = .ok (.aload_n 0, 1) := by decide +kernel
theorem dX8_way_123 : decode cX8_way 123 = .ok (.getfield 28, 3) := by decide +kernel
theorem dX8_way_126 : decode cX8_way 126 = .ok (.iload_n 1, 1) := by decide +kernel
theorem dX8_way_127 : decode cX8_way 127 = .ok (.invokevirtual 229, 3) := by decide +kernel
theorem dX8_way_130 : decode cX8_way 130 = .ok (.invokestatic 201, 3) := by decide +kernel
theorem dX8_way_133 : decode cX8_way 133 = .ok (.ireturn, 1) := by decide +kernel
theorem dX8_way_134 : decode cX8_way 134 = .ok (.bipush (-2), 2) := by decide +kernel
theorem dX8_way_136 : decode cX8_way 136 = .ok (.ireturn, 1) := by decide +kernel
set_option maxRecDepth 20000 in
theorem ggX8_swing_X8_isWay : GoodIn wsX8_swing wsX8_isWay := goodIn_r _ [5] (by decide +kernel) (by decide +kernel)
set_option maxRecDepth 20000 in
theorem gX8_swing_X8_isWay : GoodIn wsX8_swing (va_wsS RX8 190 yX8_isWay wsX8_isWay) := goodIn_app (goodIn_of _ (by decide +kernel)) ggX8_swing_X8_isWay
set_option maxRecDepth 20000 in
theorem ggX8_swing_X8_isPlace : GoodIn wsX8_swing wsX8_isPlace := goodIn_r _ [8] (by decide +kernel) (by decide +kernel)
set_option maxRecDepth 20000 in
theorem gX8_swing_X8_isPlace : GoodIn wsX8_swing (va_wsS RX8 67 yX8_isPlace wsX8_isPlace) := goodIn_app (goodIn_of _ (by decide +kernel)) ggX8_swing_X8_isPlace
set_option maxRecDepth 20000 in
theorem ggX8_swing_X7_swingAt : GoodIn wsX8_swing wsX7_swingAt := goodIn_r _ [13, 14, 15, 16, 17, 18, 19, 20, 21, 3, 4, 5, 7, 8, 31, 32, 33, 34, 35] (by decide +kernel) (by decide +kernel)
set_option maxRecDepth 20000 in
theorem gX8_swing_X7_swingAt : GoodIn wsX8_swing (wsV RX8 193 RX7 yX7_swingAt wsX7_swingAt) := goodIn_app (goodIn_of _ (by decide +kernel)) ggX8_swing_X7_swingAt
theorem dX8_swing_0 : decode cX8_swing 0 = .ok (.iload_n 1, 1) := by decide +kernel
theorem dX8_swing_1 : decode cX8_swing 1 = .ok (.invokestatic 190, 3) := by decide +kernel
theorem dX8_swing_4 : decode cX8_swing 4 = .ok (.ifCond .eq 11, 3) := by decide +kernel
theorem dX8_swing_7 : decode cX8_swing 7 = .ok (.iload_n 2, 1) := by decide +kernel
theorem dX8_swing_8 : decode cX8_swing 8 = .ok (.iload_n 3, 1) := by decide +kernel
theorem dX8_swing_9 : decode cX8_swing 9 = .ok (.invokestatic 67, 3) := by decide +kernel
theorem dX8_swing_12 : decode cX8_swing 12 = .ok (.ifCond .ne 5, 3) := by decide +kernel
theorem dX8_swing_15 : decode cX8_swing 15 = .ok (.iconst (-1), 1) := by decide +kernel
theorem dX8_swing_16 : decode cX8_swing 16 = .ok (.ireturn, 1) := by decide +kernel
theorem dX8_swing_17 : decode cX8_swing 17 = .ok (.aload_n 0, 1) := by decide +kernel
theorem dX8_swing_18 : decode cX8_swing 18 = .ok (.getfield 12, 3) := by decide +kernel
theorem dX8_swing_21 : decode cX8_swing 21 = .ok (.iload_n 1, 1) := by decide +kernel
theorem dX8_swing_22 : decode cX8_swing 22 = .ok (.iload_n 2, 1) := by decide +kernel
theorem dX8_swing_23 : decode cX8_swing 23 = .ok (.iload_n 3, 1) := by decide +kernel
theorem dX8_swing_24 : decode cX8_swing 24 = .ok (.invokevirtual 193, 3) := by decide +kernel
theorem dX8_swing_27 : decode cX8_swing 27 = .ok (.ireturn, 1) := by decide +kernel
set_option maxRecDepth 20000 in
theorem ggX8_sounds_X8_isBow : GoodIn wsX8_sounds wsX8_isBow := goodIn_r _ [5, 6, 7, 4, 8] (by decide +kernel) (by decide +kernel)
set_option maxRecDepth 20000 in
theorem gX8_sounds_X8_isBow : GoodIn wsX8_sounds (va_wsS RX8 126 yX8_isBow wsX8_isBow) := goodIn_app (goodIn_of _ (by decide +kernel)) ggX8_sounds_X8_isBow
set_option maxRecDepth 20000 in
theorem ggX8_sounds_X0_wayFor : GoodIn wsX8_sounds wsX0_wayFor := goodIn_r _ [13, 14, 15, 16, 12, 17, 18, 19, 20, 21, 22, 23, 24, 25, 26, 27, 28, 29, 30, 31, 32, 33, 34, 35, 36, 37, 4, 38, 39, 40, 41, 42, 43, 44, 57, 58, 59, 60, 61, 62, 63, 64, 65, 66, 67, 68, 69, 70, 71, 72, 73, 74, 75, 76, 77, 78] (by decide +kernel) (by decide +kernel)
set_option maxRecDepth 20000 in
theorem gX8_sounds_X0_wayFor : GoodIn wsX8_sounds (wsV RX8 232 RX0 yX0_wayFor wsX0_wayFor) := goodIn_app (goodIn_of _ (by decide +kernel)) ggX8_sounds_X0_wayFor
set_option maxRecDepth 20000 in
theorem ggX8_sounds_X8_orNone : GoodIn wsX8_sounds wsX8_orNone := goodIn_r _ [47] (by decide +kernel) (by decide +kernel)
set_option maxRecDepth 20000 in
theorem gX8_sounds_X8_orNone : GoodIn wsX8_sounds (va_wsS RX8 205 yX8_orNone wsX8_orNone) := goodIn_app (goodIn_of _ (by decide +kernel)) ggX8_sounds_X8_orNone
theorem dX8_sounds_0 : decode cX8_sounds 0 = .ok (.iload_n 1, 1) := by decide +kernel
theorem dX8_sounds_1 : decode cX8_sounds 1 = .ok (.iload_n 2, 1) := by decide +kernel
theorem dX8_sounds_2 : decode cX8_sounds 2 = .ok (.invokestatic 126, 3) := by decide +kernel
theorem dX8_sounds_5 : decode cX8_sounds 5 = .ok (.ifCond .ne 5, 3) := by decide +kernel
theorem dX8_sounds_8 : decode cX8_sounds 8 = .ok (.iconst (-1), 1) := by decide +kernel
theorem dX8_sounds_9 : decode cX8_sounds 9 = .ok (.ireturn, 1) := by decide +kernel
theorem dX8_sounds_10 : decode cX8_sounds 10 = .ok (.aload_n 0, 1) := by decide +kernel
theorem dX8_sounds_11 : decode cX8_sounds 11 = .ok (.getfield 28, 3) := by decide +kernel
theorem dX8_sounds_14 : decode cX8_sounds 14 = .ok (.iload_n 1, 1) := by decide +kernel
theorem dX8_sounds_15 : decode cX8_sounds 15 = .ok (.iload_n 2, 1) := by decide +kernel
theorem dX8_sounds_16 : decode cX8_sounds 16 = .ok (.invokevirtual 232, 3) := by decide +kernel
theorem dX8_sounds_19 : decode cX8_sounds 19 = .ok (.invokestatic 205, 3) := by decide +kernel
theorem dX8_sounds_22 : decode cX8_sounds 22 = .ok (.ireturn, 1) := by decide +kernel
set_option maxRecDepth 20000 in
theorem ggX8_why_X8_isWay : GoodIn wsX8_why wsX8_isWay := goodIn_r _ [5] (by decide +kernel) (by decide +kernel)
set_option maxRecDepth 20000 in
theorem gX8_why_X8_isWay : GoodIn wsX8_why (va_wsS RX8 190 yX8_isWay wsX8_isWay) := goodIn_app (goodIn_of _ (by decide +kernel)) ggX8_why_X8_isWay
set_option maxRecDepth 20000 in
theorem ggX8_why_X8_isBow : GoodIn wsX8_why wsX8_isBow := goodIn_r _ [8, 9, 10, 4, 11] (by decide +kernel) (by decide +kernel)
set_option maxRecDepth 20000 in
theorem gX8_why_X8_isBow : GoodIn wsX8_why (va_wsS RX8 126 yX8_isBow wsX8_isBow) := goodIn_app (goodIn_of _ (by decide +kernel)) ggX8_why_X8_isBow
set_option maxRecDepth 20000 in
theorem ggX8_why_X0_reasonOf : GoodIn wsX8_why wsX0_reasonOf := goodIn_r _ [16, 17, 18, 19, 15, 20, 21, 22, 23, 24, 25, 26, 27, 28, 29, 30, 31, 32, 33, 34, 35, 3, 4, 5, 36, 37, 38, 39, 40, 41, 42, 43, 44, 45, 46, 47, 48, 49, 59, 60, 61, 62, 63, 64, 65, 66, 67, 68, 69, 70, 71, 72, 73, 74, 75, 76, 77, 78, 79, 80] (by decide +kernel) (by decide +kernel)
set_option maxRecDepth 20000 in
theorem gX8_why_X0_reasonOf : GoodIn wsX8_why (wsV RX8 235 RX0 yX0_reasonOf wsX0_reasonOf) := goodIn_app (goodIn_of _ (by decide +kernel)) ggX8_why_X0_reasonOf
theorem dX8_why_0 : decode cX8_why 0 = .ok (.iload_n 1, 1) := by decide +kernel
theorem dX8_why_1 : decode cX8_why 1 = .ok (.invokestatic 190, 3) := by decide +kernel
theorem dX8_why_4 : decode cX8_why 4 = .ok (.ifCond .eq 11, 3) := by decide +kernel
theorem dX8_why_7 : decode cX8_why 7 = .ok (.iload_n 2, 1) := by decide +kernel
theorem dX8_why_8 : decode cX8_why 8 = .ok (.iload_n 3, 1) := by decide +kernel
theorem dX8_why_9 : decode cX8_why 9 = .ok (.invokestatic 126, 3) := by decide +kernel
theorem dX8_why_12 : decode cX8_why 12 = .ok (.ifCond .ne 5, 3) := by decide +kernel
theorem dX8_why_15 : decode cX8_why 15 = .ok (.iconst (-1), 1) := by decide +kernel
theorem dX8_why_16 : decode cX8_why 16 = .ok (.ireturn, 1) := by decide +kernel
theorem dX8_why_17 : decode cX8_why 17 = .ok (.aload_n 0, 1) := by decide +kernel
theorem dX8_why_18 : decode cX8_why 18 = .ok (.getfield 28, 3) := by decide +kernel
theorem dX8_why_21 : decode cX8_why 21 = .ok (.iload_n 1, 1) := by decide +kernel
theorem dX8_why_22 : decode cX8_why 22 = .ok (.iload_n 2, 1) := by decide +kernel
theorem dX8_why_23 : decode cX8_why 23 = .ok (.iload_n 3, 1) := by decide +kernel
theorem dX8_why_24 : decode cX8_why 24 = .ok (.invokevirtual 235, 3) := by decide +kernel
theorem dX8_why_27 : decode cX8_why 27 = .ok (.ireturn, 1) := by decide +kernel
set_option maxRecDepth 20000 in
theorem ggX8_possible_X0_findPossible : GoodIn wsX8_possible wsX0_findPossible := goodIn_r _ [6, 7, 8, 9, 10, 11, 12, 5, 13, 14, 15, 16, 17, 18, 19, 20, 21, 22, 23, 24, 25, 26, 27, 28, 29, 30, 31, 32, 33, 34, 35, 36, 37, 38, 39, 40, 41, 42, 43, 44, 45, 55, 56, 57, 58, 59, 60, 61, 62, 63, 64, 65, 66, 67, 68, 69, 70, 71, 72, 73, 74, 75, 76] (by decide +kernel) (by decide +kernel)
set_option maxRecDepth 20000 in
theorem gX8_possible_X0_findPossible : GoodIn wsX8_possible (wsV RX8 238 RX0 yX0_findPossible wsX0_findPossible) := goodIn_app (goodIn_of _ (by decide +kernel)) ggX8_possible_X0_findPossible
theorem dX8_possible_0 : decode cX8_possible 0 = .ok (.iload_n 1, 1) := by decide +kernel
theorem dX8_possible_1 : decode cX8_possible 1 = .ok (.ifCond .ge 6, 3) := by decide +kernel
theorem dX8_possible_4 : decode cX8_possible 4 = .ok (.bipush (-2), 2) := by decide +kernel
theorem dX8_possible_6 : decode cX8_possible 6 = .ok (.ireturn, 1) := by decide +kernel
theorem dX8_possible_7 : decode cX8_possible 7 = .ok (.aload_n 0, 1) := by decide +kernel
theorem dX8_possible_8 : decode cX8_possible 8 = .ok (.getfield 28, 3) := by decide +kernel
theorem dX8_possible_11 : decode cX8_possible 11 = .ok (.invokevirtual 238, 3) := by decide +kernel
theorem dX8_possible_14 : decode cX8_possible 14 = .ok (.iload_n 1, 1) := by decide +kernel
theorem dX8_possible_15 : decode cX8_possible 15 = .ok (.aload_n 0, 1) := by decide +kernel
theorem dX8_possible_16 : decode cX8_possible 16 = .ok (.getfield 28, 3) := by decide +kernel
theorem dX8_possible_19 : decode cX8_possible 19 = .ok (.getfield 241, 3) := by decide +kernel
theorem dX8_possible_22 : decode cX8_possible 22 = .ok (.if_icmp .ge 15, 3) := by decide +kernel
theorem dX8_possible_25 : decode cX8_possible 25 = .ok (.aload_n 0, 1) := by decide +kernel
theorem dX8_possible_26 : decode cX8_possible 26 = .ok (.getfield 28, 3) := by decide +kernel
theorem dX8_possible_29 : decode cX8_possible 29 = .ok (.getfield 244, 3) := by decide +kernel
theorem dX8_possible_32 : decode cX8_possible 32 = .ok (.iload_n 1, 1) := by decide +kernel
theorem dX8_possible_33 : decode cX8_possible 33 = .ok (.iaload, 1) := by decide +kernel
theorem dX8_possible_34 : decode cX8_possible 34 = .ok (.goto 5, 3) := by decide +kernel
theorem dX8_possible_37 : decode cX8_possible 37 = .ok (.bipush (-5), 2) := by decide +kernel
theorem dX8_possible_39 : decode cX8_possible 39 = .ok (.ireturn, 1) := by decide +kernel
set_option maxRecDepth 20000 in
theorem ggX8_waiting_X0_wayFor : GoodIn wsX8_waiting wsX0_wayFor := goodIn_r _ [7, 8, 9, 10, 6, 11, 12, 13, 14, 15, 16, 17, 18, 19, 20, 21, 22, 23, 24, 25, 26, 27, 28, 29, 30, 31, 32, 33, 34, 35, 36, 37, 38, 39, 69, 70, 71, 72, 73, 52, 53, 54, 55, 56, 57, 58, 59, 60, 61, 62, 63, 74, 75, 76, 77, 78] (by decide +kernel) (by decide +kernel)
set_option maxRecDepth 20000 in
theorem gX8_waiting_X0_wayFor : GoodIn wsX8_waiting (wsV RX8 232 RX0 yX0_wayFor wsX0_wayFor) := goodIn_app (goodIn_of _ (by decide +kernel)) ggX8_waiting_X0_wayFor
set_option maxRecDepth 20000 in
theorem ggX8_waiting_X8_orNone : GoodIn wsX8_waiting wsX8_orNone := goodIn_r _ [42] (by decide +kernel) (by decide +kernel)
set_option maxRecDepth 20000 in
theorem gX8_waiting_X8_orNone : GoodIn wsX8_waiting (va_wsS RX8 205 yX8_orNone wsX8_orNone) := goodIn_app (goodIn_of _ (by decide +kernel)) ggX8_waiting_X8_orNone
theorem dX8_waiting_0 : decode cX8_waiting 0 = .ok (.iload_n 1, 1) := by decide +kernel
theorem dX8_waiting_1 : decode cX8_waiting 1 = .ok (.ifCond .lt 12, 3) := by decide +kernel
theorem dX8_waiting_4 : decode cX8_waiting 4 = .ok (.iload_n 2, 1) := by decide +kernel
theorem dX8_waiting_5 : decode cX8_waiting 5 = .ok (.ifCond .lt 8, 3) := by decide +kernel
theorem dX8_waiting_8 : decode cX8_waiting 8 = .ok (.iload_n 2, 1) := by decide +kernel
theorem dX8_waiting_9 : decode cX8_waiting 9 = .ok (.iconst 3, 1) := by decide +kernel
theorem dX8_waiting_10 : decode cX8_waiting 10 = .ok (.if_icmp .le 6, 3) := by decide +kernel
theorem dX8_waiting_13 : decode cX8_waiting 13 = .ok (.bipush (-2), 2) := by decide +kernel
theorem dX8_waiting_15 : decode cX8_waiting 15 = .ok (.ireturn, 1) := by decide +kernel
theorem dX8_waiting_16 : decode cX8_waiting 16 = .ok (.iload_n 1, 1) := by decide +kernel
theorem dX8_waiting_17 : decode cX8_waiting 17 = .ok (.aload_n 0, 1) := by decide +kernel
theorem dX8_waiting_18 : decode cX8_waiting 18 = .ok (.getfield 19, 3) := by decide +kernel
theorem dX8_waiting_21 : decode cX8_waiting 21 = .ok (.getfield 129, 3) := by decide +kernel
theorem dX8_waiting_24 : decode cX8_waiting 24 = .ok (.getfield 133, 3) := by decide +kernel
theorem dX8_waiting_27 : decode cX8_waiting 27 = .ok (.if_icmp .lt 6, 3) := by decide +kernel
theorem dX8_waiting_30 : decode cX8_waiting 30 = .ok (.bipush (-5), 2) := by decide +kernel
theorem dX8_waiting_32 : decode cX8_waiting 32 = .ok (.ireturn, 1) := by decide +kernel
theorem dX8_waiting_33 : decode cX8_waiting 33 = .ok (.iload_n 2, 1) := by decide +kernel
theorem dX8_waiting_34 : decode cX8_waiting 34 = .ok (.tableswitch 65 0 2 #[26, 39, 52], 26) := by decide +kernel
theorem dX8_waiting_60 : decode cX8_waiting 60 = .ok (.aload_n 0, 1) := by decide +kernel
theorem dX8_waiting_61 : decode cX8_waiting 61 = .ok (.getfield 19, 3) := by decide +kernel
theorem dX8_waiting_64 : decode cX8_waiting 64 = .ok (.getfield 129, 3) := by decide +kernel
theorem dX8_waiting_67 : decode cX8_waiting 67 = .ok (.getfield 247, 3) := by decide +kernel
theorem dX8_waiting_70 : decode cX8_waiting 70 = .ok (.iload_n 1, 1) := by decide +kernel
theorem dX8_waiting_71 : decode cX8_waiting 71 = .ok (.iaload, 1) := by decide +kernel
theorem dX8_waiting_72 : decode cX8_waiting 72 = .ok (.ireturn, 1) := by decide +kernel
theorem dX8_waiting_73 : decode cX8_waiting 73 = .ok (.aload_n 0, 1) := by decide +kernel
theorem dX8_waiting_74 : decode cX8_waiting 74 = .ok (.getfield 19, 3) := by decide +kernel
theorem dX8_waiting_77 : decode cX8_waiting 77 = .ok (.getfield 129, 3) := by decide +kernel
theorem dX8_waiting_80 : decode cX8_waiting 80 = .ok (.getfield 250, 3) := by decide +kernel
theorem dX8_waiting_83 : decode cX8_waiting 83 = .ok (.iload_n 1, 1) := by decide +kernel
theorem dX8_waiting_84 : decode cX8_waiting 84 = .ok (.iaload, 1) := by decide +kernel
theorem dX8_waiting_85 : decode cX8_waiting 85 = .ok (.ireturn, 1) := by decide +kernel
theorem dX8_waiting_86 : decode cX8_waiting 86 = .ok (.aload_n 0, 1) := by decide +kernel
theorem dX8_waiting_87 : decode cX8_waiting 87 = .ok (.getfield 19, 3) := by decide +kernel
theorem dX8_waiting_90 : decode cX8_waiting 90 = .ok (.getfield 129, 3) := by decide +kernel
theorem dX8_waiting_93 : decode cX8_waiting 93 = .ok (.getfield 253, 3) := by decide +kernel
theorem dX8_waiting_96 : decode cX8_waiting 96 = .ok (.iload_n 1, 1) := by decide +kernel
theorem dX8_waiting_97 : decode cX8_waiting 97 = .ok (.iaload, 1) := by decide +kernel
theorem dX8_waiting_98 : decode cX8_waiting 98 = .ok (.ireturn, 1) := by decide +kernel
theorem dX8_waiting_99 : decode cX8_waiting 99 = .ok (.aload_n 0, 1) := by decide +kernel
theorem dX8_waiting_100 : decode cX8_waiting 100 = .ok (.getfield 28, 3) := by decide +kernel
theorem dX8_waiting_103 : decode cX8_waiting 103 = .ok (.aload_n 0, 1) := by decide +kernel
theorem dX8_waiting_104 : decode cX8_waiting 104 = .ok (.getfield 19, 3) := by decide +kernel
theorem dX8_waiting_107 : decode cX8_waiting 107 = .ok (.getfield 129, 3) := by decide +kernel
theorem dX8_waiting_110 : decode cX8_waiting 110 = .ok (.getfield 247, 3) := by decide +kernel
theorem dX8_waiting_113 : decode cX8_waiting 113 = .ok (.iload_n 1, 1) := by decide +kernel
theorem dX8_waiting_114 : decode cX8_waiting 114 = .ok (.iaload, 1) := by decide +kernel
theorem dX8_waiting_115 : decode cX8_waiting 115 = .ok (.aload_n 0, 1) := by decide +kernel
theorem dX8_waiting_116 : decode cX8_waiting 116 = .ok (.getfield 19, 3) := by decide +kernel
theorem dX8_waiting_119 : decode cX8_waiting 119 = .ok (.getfield 129, 3) := by decide +kernel
theorem dX8_waiting_122 : decode cX8_waiting 122 = .ok (.getfield 250, 3) := by decide +kernel
theorem dX8_waiting_125 : decode cX8_waiting 125 = .ok (.iload_n 1, 1) := by decide +kernel
theorem dX8_waiting_126 : decode cX8_waiting 126 = .ok (.iaload, 1) := by decide +kernel
theorem dX8_waiting_127 : decode cX8_waiting 127 = .ok (.invokevirtual 232, 3) := by decide +kernel
theorem dX8_waiting_130 : decode cX8_waiting 130 = .ok (.invokestatic 205, 3) := by decide +kernel
theorem dX8_waiting_133 : decode cX8_waiting 133 = .ok (.ireturn, 1) := by decide +kernel
set_option maxRecDepth 20000 in
theorem ggX8_sand_X8_isLine : GoodIn wsX8_sand wsX8_isLine := goodIn_r _ [5] (by decide +kernel) (by decide +kernel)
set_option maxRecDepth 20000 in
theorem gX8_sand_X8_isLine : GoodIn wsX8_sand (va_wsS RX8 256 yX8_isLine wsX8_isLine) := goodIn_app (goodIn_of _ (by decide +kernel)) ggX8_sand_X8_isLine
set_option maxRecDepth 20000 in
theorem ggX8_sand_X8_placeOf : GoodIn wsX8_sand wsX8_placeOf := goodIn_r _ [8] (by decide +kernel) (by decide +kernel)
set_option maxRecDepth 20000 in
theorem gX8_sand_X8_placeOf : GoodIn wsX8_sand (va_wsS RX8 75 yX8_placeOf wsX8_placeOf) := goodIn_app (goodIn_of _ (by decide +kernel)) ggX8_sand_X8_placeOf
theorem dX8_sand_0 : decode cX8_sand 0 = .ok (.iload_n 2, 1) := by decide +kernel
theorem dX8_sand_1 : decode cX8_sand 1 = .ok (.invokestatic 256, 3) := by decide +kernel
theorem dX8_sand_4 : decode cX8_sand 4 = .ok (.ifCond .ne 5, 3) := by decide +kernel
theorem dX8_sand_7 : decode cX8_sand 7 = .ok (.iconst (-1), 1) := by decide +kernel
theorem dX8_sand_8 : decode cX8_sand 8 = .ok (.ireturn, 1) := by decide +kernel
theorem dX8_sand_9 : decode cX8_sand 9 = .ok (.iconst 0, 1) := by decide +kernel
theorem dX8_sand_10 : decode cX8_sand 10 = .ok (.istore_n 3, 1) := by decide +kernel
theorem dX8_sand_11 : decode cX8_sand 11 = .ok (.iconst 0, 1) := by decide +kernel
theorem dX8_sand_12 : decode cX8_sand 12 = .ok (.istore 4, 2) := by decide +kernel
theorem dX8_sand_14 : decode cX8_sand 14 = .ok (.iload 4, 2) := by decide +kernel
theorem dX8_sand_16 : decode cX8_sand 16 = .ok (.bipush 12, 2) := by decide +kernel
theorem dX8_sand_18 : decode cX8_sand 18 = .ok (.if_icmp .ge 39, 3) := by decide +kernel
theorem dX8_sand_21 : decode cX8_sand 21 = .ok (.iload_n 3, 1) := by decide +kernel
theorem dX8_sand_22 : decode cX8_sand 22 = .ok (.aload_n 0, 1) := by decide +kernel
theorem dX8_sand_23 : decode cX8_sand 23 = .ok (.getfield 19, 3) := by decide +kernel
theorem dX8_sand_26 : decode cX8_sand 26 = .ok (.getfield 79, 3) := by decide +kernel
theorem dX8_sand_29 : decode cX8_sand 29 = .ok (.iload_n 1, 1) := by decide +kernel
theorem dX8_sand_30 : decode cX8_sand 30 = .ok (.ifCond .eq 12, 3) := by decide +kernel
theorem dX8_sand_33 : decode cX8_sand 33 = .ok (.iload 4, 2) := by decide +kernel
theorem dX8_sand_35 : decode cX8_sand 35 = .ok (.iload_n 2, 1) := by decide +kernel
theorem dX8_sand_36 : decode cX8_sand 36 = .ok (.invokestatic 75, 3) := by decide +kernel
theorem dX8_sand_39 : decode cX8_sand 39 = .ok (.goto 9, 3) := by decide +kernel
theorem dX8_sand_42 : decode cX8_sand 42 = .ok (.iload_n 2, 1) := by decide +kernel
theorem dX8_sand_43 : decode cX8_sand 43 = .ok (.iload 4, 2) := by decide +kernel
theorem dX8_sand_45 : decode cX8_sand 45 = .ok (.invokestatic 75, 3) := by decide +kernel
theorem dX8_sand_48 : decode cX8_sand 48 = .ok (.iaload, 1) := by decide +kernel
theorem dX8_sand_49 : decode cX8_sand 49 = .ok (.iadd, 1) := by decide +kernel
theorem dX8_sand_50 : decode cX8_sand 50 = .ok (.istore_n 3, 1) := by decide +kernel
theorem dX8_sand_51 : decode cX8_sand 51 = .ok (.iinc 4 1, 3) := by decide +kernel
theorem dX8_sand_54 : decode cX8_sand 54 = .ok (.goto (-40), 3) := by decide +kernel
theorem dX8_sand_57 : decode cX8_sand 57 = .ok (.iload_n 3, 1) := by decide +kernel
theorem dX8_sand_58 : decode cX8_sand 58 = .ok (.ireturn, 1) := by decide +kernel
set_option maxRecDepth 20000 in
theorem ggX8_count_X5_allGrains : GoodIn wsX8_count wsX5_allGrains := goodIn_r _ [9, 10, 74, 75, 76, 77, 78, 79, 80, 81, 82, 83, 84, 85] (by decide +kernel) (by decide +kernel)
set_option maxRecDepth 20000 in
theorem gX8_count_X5_allGrains : GoodIn wsX8_count (wsV RX8 87 RX5 yX5_allGrains wsX5_allGrains) := goodIn_app (goodIn_of _ (by decide +kernel)) ggX8_count_X5_allGrains
set_option maxRecDepth 20000 in
theorem ggX8_count_X8_orNone : GoodIn wsX8_count wsX8_orNone := goodIn_r _ [14] (by decide +kernel) (by decide +kernel)
set_option maxRecDepth 20000 in
theorem gX8_count_X8_orNone : GoodIn wsX8_count (va_wsS RX8 205 yX8_orNone wsX8_orNone) := goodIn_app (goodIn_of _ (by decide +kernel)) ggX8_count_X8_orNone
set_option maxRecDepth 20000 in
theorem ggX8_count_X0_findPossible : GoodIn wsX8_count wsX0_findPossible := goodIn_r _ [19, 20, 21, 22, 23, 24, 25, 18, 26, 27, 28, 29, 30, 31, 32, 33, 34, 35, 36, 37, 38, 39, 40, 41, 42, 13, 43, 44, 45, 46, 47, 48, 49, 50, 51, 52, 53, 54, 55, 56, 57, 91, 92, 93, 94, 95, 74, 75, 76, 77, 78, 79, 80, 81, 82, 83, 84, 85, 103, 104, 105, 106, 107] (by decide +kernel) (by decide +kernel)
set_option maxRecDepth 20000 in
theorem gX8_count_X0_findPossible : GoodIn wsX8_count (wsV RX8 238 RX0 yX0_findPossible wsX0_findPossible) := goodIn_app (goodIn_of _ (by decide +kernel)) ggX8_count_X0_findPossible
set_option maxRecDepth 20000 in
theorem ggX8_count_X5_mostGrains : GoodIn wsX8_count wsX5_mostGrains := goodIn_r _ [61, 10, 62, 63, 40, 64, 74, 75, 76, 77, 78, 79, 80, 81, 82, 83, 84, 85] (by decide +kernel) (by decide +kernel)
set_option maxRecDepth 20000 in
theorem gX8_count_X5_mostGrains : GoodIn wsX8_count (wsV RX8 267 RX5 yX5_mostGrains wsX5_mostGrains) := goodIn_app (goodIn_of _ (by decide +kernel)) ggX8_count_X5_mostGrains
theorem dX8_count_0 : decode cX8_count 0 = .ok (.iload_n 1, 1) := by decide +kernel
theorem dX8_count_1 : decode cX8_count 1 = .ok (.tableswitch 213 0 16 #[83, 91, 99, 107, 115, 123, 134, 142, 150, 161, 176, 184, 184, 184, 184, 197, 205], 83) := by decide +kernel
theorem dX8_count_84 : decode cX8_count 84 = .ok (.aload_n 0, 1) := by decide +kernel
theorem dX8_count_85 : decode cX8_count 85 = .ok (.getfield 19, 3) := by decide +kernel
theorem dX8_count_88 : decode cX8_count 88 = .ok (.invokevirtual 87, 3) := by decide +kernel
theorem dX8_count_91 : decode cX8_count 91 = .ok (.ireturn, 1) := by decide +kernel
theorem dX8_count_92 : decode cX8_count 92 = .ok (.aload_n 0, 1) := by decide +kernel
theorem dX8_count_93 : decode cX8_count 93 = .ok (.getfield 19, 3) := by decide +kernel
theorem dX8_count_96 : decode cX8_count 96 = .ok (.getfield 83, 3) := by decide +kernel
theorem dX8_count_99 : decode cX8_count 99 = .ok (.ireturn, 1) := by decide +kernel
theorem dX8_count_100 : decode cX8_count 100 = .ok (.aload_n 0, 1) := by decide +kernel
theorem dX8_count_101 : decode cX8_count 101 = .ok (.getfield 19, 3) := by decide +kernel
theorem dX8_count_104 : decode cX8_count 104 = .ok (.getfield 91, 3) := by decide +kernel
theorem dX8_count_107 : decode cX8_count 107 = .ok (.ireturn, 1) := by decide +kernel
theorem dX8_count_108 : decode cX8_count 108 = .ok (.aload_n 0, 1) := by decide +kernel
theorem dX8_count_109 : decode cX8_count 109 = .ok (.getfield 19, 3) := by decide +kernel
theorem dX8_count_112 : decode cX8_count 112 = .ok (.getfield 259, 3) := by decide +kernel
theorem dX8_count_115 : decode cX8_count 115 = .ok (.ireturn, 1) := by decide +kernel
theorem dX8_count_116 : decode cX8_count 116 = .ok (.aload_n 0, 1) := by decide +kernel
theorem dX8_count_117 : decode cX8_count 117 = .ok (.getfield 19, 3) := by decide +kernel
theorem dX8_count_120 : decode cX8_count 120 = .ok (.getfield 98, 3) := by decide +kernel
theorem dX8_count_123 : decode cX8_count 123 = .ok (.ireturn, 1) := by decide +kernel
theorem dX8_count_124 : decode cX8_count 124 = .ok (.aload_n 0, 1) := by decide +kernel
theorem dX8_count_125 : decode cX8_count 125 = .ok (.getfield 19, 3) := by decide +kernel
theorem dX8_count_128 : decode cX8_count 128 = .ok (.getfield 129, 3) := by decide +kernel
theorem dX8_count_131 : decode cX8_count 131 = .ok (.getfield 133, 3) := by decide +kernel
theorem dX8_count_134 : decode cX8_count 134 = .ok (.ireturn, 1) := by decide +kernel
theorem dX8_count_135 : decode cX8_count 135 = .ok (.aload_n 0, 1) := by decide +kernel
theorem dX8_count_136 : decode cX8_count 136 = .ok (.getfield 19, 3) := by decide +kernel
theorem dX8_count_139 : decode cX8_count 139 = .ok (.getfield 262, 3) := by decide +kernel
theorem dX8_count_142 : decode cX8_count 142 = .ok (.ireturn, 1) := by decide +kernel
theorem dX8_count_143 : decode cX8_count 143 = .ok (.aload_n 0, 1) := by decide +kernel
theorem dX8_count_144 : decode cX8_count 144 = .ok (.getfield 19, 3) := by decide +kernel
theorem dX8_count_147 : decode cX8_count 147 = .ok (.getfield 264, 3) := by decide +kernel
theorem dX8_count_150 : decode cX8_count 150 = .ok (.ireturn, 1) := by decide +kernel
theorem dX8_count_151 : decode cX8_count 151 = .ok (.aload_n 0, 1) := by decide +kernel
theorem dX8_count_152 : decode cX8_count 152 = .ok (.getfield 19, 3) := by decide +kernel
theorem dX8_count_155 : decode cX8_count 155 = .ok (.getfield 187, 3) := by decide +kernel
theorem dX8_count_158 : decode cX8_count 158 = .ok (.invokestatic 205, 3) := by decide +kernel
theorem dX8_count_161 : decode cX8_count 161 = .ok (.ireturn, 1) := by decide +kernel
theorem dX8_count_162 : decode cX8_count 162 = .ok (.aload_n 0, 1) := by decide +kernel
theorem dX8_count_163 : decode cX8_count 163 = .ok (.getfield 28, 3) := by decide +kernel
theorem dX8_count_166 : decode cX8_count 166 = .ok (.invokevirtual 238, 3) := by decide +kernel
theorem dX8_count_169 : decode cX8_count 169 = .ok (.aload_n 0, 1) := by decide +kernel
theorem dX8_count_170 : decode cX8_count 170 = .ok (.getfield 28, 3) := by decide +kernel
theorem dX8_count_173 : decode cX8_count 173 = .ok (.getfield 241, 3) := by decide +kernel
theorem dX8_count_176 : decode cX8_count 176 = .ok (.ireturn, 1) := by decide +kernel
theorem dX8_count_177 : decode cX8_count 177 = .ok (.aload_n 0, 1) := by decide +kernel
theorem dX8_count_178 : decode cX8_count 178 = .ok (.getfield 19, 3) := by decide +kernel
theorem dX8_count_181 : decode cX8_count 181 = .ok (.invokevirtual 267, 3) := by decide +kernel
theorem dX8_count_184 : decode cX8_count 184 = .ok (.ireturn, 1) := by decide +kernel
theorem dX8_count_185 : decode cX8_count 185 = .ok (.aload_n 0, 1) := by decide +kernel
theorem dX8_count_186 : decode cX8_count 186 = .ok (.getfield 19, 3) := by decide +kernel
theorem dX8_count_189 : decode cX8_count 189 = .ok (.getfield 123, 3) := by decide +kernel
theorem dX8_count_192 : decode cX8_count 192 = .ok (.iload_n 1, 1) := by decide +kernel
theorem dX8_count_193 : decode cX8_count 193 = .ok (.bipush 11, 2) := by decide +kernel
theorem dX8_count_195 : decode cX8_count 195 = .ok (.isub, 1) := by decide +kernel
theorem dX8_count_196 : decode cX8_count 196 = .ok (.iaload, 1) := by decide +kernel
theorem dX8_count_197 : decode cX8_count 197 = .ok (.ireturn, 1) := by decide +kernel
theorem dX8_count_198 : decode cX8_count 198 = .ok (.aload_n 0, 1) := by decide +kernel
theorem dX8_count_199 : decode cX8_count 199 = .ok (.getfield 56, 3) := by decide +kernel
theorem dX8_count_202 : decode cX8_count 202 = .ok (.getfield 178, 3) := by decide +kernel
theorem dX8_count_205 : decode cX8_count 205 = .ok (.ireturn, 1) := by decide +kernel
theorem dX8_count_206 : decode cX8_count 206 = .ok (.aload_n 0, 1) := by decide +kernel
theorem dX8_count_207 : decode cX8_count 207 = .ok (.getfield 49, 3) := by decide +kernel
theorem dX8_count_210 : decode cX8_count 210 = .ok (.getfield 172, 3) := by decide +kernel
theorem dX8_count_213 : decode cX8_count 213 = .ok (.ireturn, 1) := by decide +kernel
theorem dX8_count_214 : decode cX8_count 214 = .ok (.bipush (-2), 2) := by decide +kernel
theorem dX8_count_216 : decode cX8_count 216 = .ok (.ireturn, 1) := by decide +kernel
set_option maxRecDepth 20000 in
theorem ggX8_clampAt_X8_isClamp : GoodIn wsX8_clampAt wsX8_isClamp := goodIn_r _ [6, 1, 7, 8, 9, 10, 11, 12, 13, 14, 15, 16, 17, 18, 19, 20, 21, 22, 23, 24, 25, 26, 27] (by decide +kernel) (by decide +kernel)
set_option maxRecDepth 20000 in
theorem gX8_clampAt_X8_isClamp : GoodIn wsX8_clampAt (wsV RX8 110 RX8 yX8_isClamp wsX8_isClamp) := goodIn_app (goodIn_of _ (by decide +kernel)) ggX8_clampAt_X8_isClamp
theorem dX8_clampAt_0 : decode cX8_clampAt 0 = .ok (.aload_n 0, 1) := by decide +kernel
theorem dX8_clampAt_1 : decode cX8_clampAt 1 = .ok (.iload_n 1, 1) := by decide +kernel
theorem dX8_clampAt_2 : decode cX8_clampAt 2 = .ok (.invokevirtual 110, 3) := by decide +kernel
theorem dX8_clampAt_5 : decode cX8_clampAt 5 = .ok (.ifCond .ne 5, 3) := by decide +kernel
theorem dX8_clampAt_8 : decode cX8_clampAt 8 = .ok (.iconst (-1), 1) := by decide +kernel
theorem dX8_clampAt_9 : decode cX8_clampAt 9 = .ok (.ireturn, 1) := by decide +kernel
theorem dX8_clampAt_10 : decode cX8_clampAt 10 = .ok (.iload_n 2, 1) := by decide +kernel
theorem dX8_clampAt_11 : decode cX8_clampAt 11 = .ok (.ifCond .eq 15, 3) := by decide +kernel
theorem dX8_clampAt_14 : decode cX8_clampAt 14 = .ok (.aload_n 0, 1) := by decide +kernel
theorem dX8_clampAt_15 : decode cX8_clampAt 15 = .ok (.getfield 19, 3) := by decide +kernel
theorem dX8_clampAt_18 : decode cX8_clampAt 18 = .ok (.getfield 107, 3) := by decide +kernel
theorem dX8_clampAt_21 : decode cX8_clampAt 21 = .ok (.iload_n 1, 1) := by decide +kernel
theorem dX8_clampAt_22 : decode cX8_clampAt 22 = .ok (.iaload, 1) := by decide +kernel
theorem dX8_clampAt_23 : decode cX8_clampAt 23 = .ok (.goto 12, 3) := by decide +kernel
theorem dX8_clampAt_26 : decode cX8_clampAt 26 = .ok (.aload_n 0, 1) := by decide +kernel
theorem dX8_clampAt_27 : decode cX8_clampAt 27 = .ok (.getfield 19, 3) := by decide +kernel
theorem dX8_clampAt_30 : decode cX8_clampAt 30 = .ok (.getfield 104, 3) := by decide +kernel
theorem dX8_clampAt_33 : decode cX8_clampAt 33 = .ok (.iload_n 1, 1) := by decide +kernel
theorem dX8_clampAt_34 : decode cX8_clampAt 34 = .ok (.iaload, 1) := by decide +kernel
theorem dX8_clampAt_35 : decode cX8_clampAt 35 = .ok (.ireturn, 1) := by decide +kernel
set_option maxRecDepth 20000 in
theorem ggX8_playBowing_X0_wayFor : GoodIn wsX8_playBowing wsX0_wayFor := goodIn_r _ [8, 9, 10, 11, 7, 12, 13, 14, 15, 16, 17, 18, 19, 20, 21, 22, 23, 24, 25, 26, 27, 28, 29, 30, 31, 32, 33, 34, 35, 36, 37, 38, 39, 40, 104, 105, 106, 107, 108, 87, 88, 89, 90, 91, 92, 93, 94, 95, 96, 97, 98, 109, 110, 111, 112, 113] (by decide +kernel) (by decide +kernel)
set_option maxRecDepth 20000 in
theorem gX8_playBowing_X0_wayFor : GoodIn wsX8_playBowing (wsV RX8 232 RX0 yX0_wayFor wsX0_wayFor) := goodIn_app (goodIn_of _ (by decide +kernel)) ggX8_playBowing_X0_wayFor
set_option maxRecDepth 20000 in
theorem ggX8_playBowing_X8_isWay : GoodIn wsX8_playBowing wsX8_isWay := goodIn_r _ [34] (by decide +kernel) (by decide +kernel)
set_option maxRecDepth 20000 in
theorem gX8_playBowing_X8_isWay : GoodIn wsX8_playBowing (va_wsS RX8 190 yX8_isWay wsX8_isWay) := goodIn_app (goodIn_of _ (by decide +kernel)) ggX8_playBowing_X8_isWay
set_option maxRecDepth 20000 in
theorem ggX8_playBowing_X3_stroke : GoodIn wsX8_playBowing wsX3_stroke := goodIn_r _ [46, 47, 48, 49, 50, 33, 51, 52, 53, 54, 20, 21, 22, 23, 24, 25, 26, 27, 28, 29, 30, 31, 32, 34, 35, 36, 55, 56, 57, 45, 58, 59, 60, 61, 62, 63, 64, 65, 66, 67, 68, 69, 70, 71, 72, 73, 74, 75, 76, 77, 114, 115, 116, 117, 118, 109, 110, 111, 112, 113, 87, 88, 89, 90, 91, 92, 93, 94, 95, 96, 97, 98] (by decide +kernel) (by decide +kernel)
set_option maxRecDepth 20000 in
theorem gX8_playBowing_X3_stroke : GoodIn wsX8_playBowing (wsV RX8 270 RX3 yX3_stroke wsX3_stroke) := goodIn_app (goodIn_of _ (by decide +kernel)) ggX8_playBowing_X3_stroke
theorem dX8_playBowing_0 : decode cX8_playBowing 0 = .ok (.aload_n 0, 1) := by decide +kernel
theorem dX8_playBowing_1 : decode cX8_playBowing 1 = .ok (.getfield 28, 3) := by decide +kernel
theorem dX8_playBowing_4 : decode cX8_playBowing 4 = .ok (.aload_n 0, 1) := by decide +kernel
theorem dX8_playBowing_5 : decode cX8_playBowing 5 = .ok (.getfield 19, 3) := by decide +kernel
theorem dX8_playBowing_8 : decode cX8_playBowing 8 = .ok (.getfield 129, 3) := by decide +kernel
theorem dX8_playBowing_11 : decode cX8_playBowing 11 = .ok (.getfield 247, 3) := by decide +kernel
theorem dX8_playBowing_14 : decode cX8_playBowing 14 = .ok (.iload_n 1, 1) := by decide +kernel
theorem dX8_playBowing_15 : decode cX8_playBowing 15 = .ok (.iaload, 1) := by decide +kernel
theorem dX8_playBowing_16 : decode cX8_playBowing 16 = .ok (.aload_n 0, 1) := by decide +kernel
theorem dX8_playBowing_17 : decode cX8_playBowing 17 = .ok (.getfield 19, 3) := by decide +kernel
theorem dX8_playBowing_20 : decode cX8_playBowing 20 = .ok (.getfield 129, 3) := by decide +kernel
theorem dX8_playBowing_23 : decode cX8_playBowing 23 = .ok (.getfield 250, 3) := by decide +kernel
theorem dX8_playBowing_26 : decode cX8_playBowing 26 = .ok (.iload_n 1, 1) := by decide +kernel
theorem dX8_playBowing_27 : decode cX8_playBowing 27 = .ok (.iaload, 1) := by decide +kernel
theorem dX8_playBowing_28 : decode cX8_playBowing 28 = .ok (.invokevirtual 232, 3) := by decide +kernel
theorem dX8_playBowing_31 : decode cX8_playBowing 31 = .ok (.istore_n 2, 1) := by decide +kernel
theorem dX8_playBowing_32 : decode cX8_playBowing 32 = .ok (.iload_n 2, 1) := by decide +kernel
theorem dX8_playBowing_33 : decode cX8_playBowing 33 = .ok (.invokestatic 190, 3) := by decide +kernel
theorem dX8_playBowing_36 : decode cX8_playBowing 36 = .ok (.ifCond .ne 18, 3) := by decide +kernel
theorem dX8_playBowing_39 : decode cX8_playBowing 39 = .ok (.aload_n 0, 1) := by decide +kernel
theorem dX8_playBowing_40 : decode cX8_playBowing 40 = .ok (.getfield 19, 3) := by decide +kernel
theorem dX8_playBowing_43 : decode cX8_playBowing 43 = .ok (.dup, 1) := by decide +kernel
theorem dX8_playBowing_44 : decode cX8_playBowing 44 = .ok (.getfield 264, 3) := by decide +kernel
theorem dX8_playBowing_47 : decode cX8_playBowing 47 = .ok (.iconst 1, 1) := by decide +kernel
theorem dX8_playBowing_48 : decode cX8_playBowing 48 = .ok (.iadd, 1) := by decide +kernel
theorem dX8_playBowing_49 : decode cX8_playBowing 49 = .ok (.putfield 264, 3) := by decide +kernel
theorem dX8_playBowing_52 : decode cX8_playBowing 52 = .ok (.iconst 0, 1) := by decide +kernel
theorem dX8_playBowing_53 : decode cX8_playBowing 53 = .ok (.ireturn, 1) := by decide +kernel
theorem dX8_playBowing_54 : decode cX8_playBowing 54 = .ok (.aload_n 0, 1) := by decide +kernel
theorem dX8_playBowing_55 : decode cX8_playBowing 55 = .ok (.getfield 19, 3) := by decide +kernel
theorem dX8_playBowing_58 : decode cX8_playBowing 58 = .ok (.getfield 129, 3) := by decide +kernel
theorem dX8_playBowing_61 : decode cX8_playBowing 61 = .ok (.getfield 253, 3) := by decide +kernel
theorem dX8_playBowing_64 : decode cX8_playBowing 64 = .ok (.iload_n 1, 1) := by decide +kernel
theorem dX8_playBowing_65 : decode cX8_playBowing 65 = .ok (.iaload, 1) := by decide +kernel
theorem dX8_playBowing_66 : decode cX8_playBowing 66 = .ok (.istore_n 3, 1) := by decide +kernel
theorem dX8_playBowing_67 : decode cX8_playBowing 67 = .ok (.aload_n 0, 1) := by decide +kernel
theorem dX8_playBowing_68 : decode cX8_playBowing 68 = .ok (.getfield 42, 3) := by decide +kernel
theorem dX8_playBowing_71 : decode cX8_playBowing 71 = .ok (.iload_n 2, 1) := by decide +kernel
theorem dX8_playBowing_72 : decode cX8_playBowing 72 = .ok (.iload_n 3, 1) := by decide +kernel
theorem dX8_playBowing_73 : decode cX8_playBowing 73 = .ok (.invokevirtual 270, 3) := by decide +kernel
theorem dX8_playBowing_76 : decode cX8_playBowing 76 = .ok (.aload_n 0, 1) := by decide +kernel
theorem dX8_playBowing_77 : decode cX8_playBowing 77 = .ok (.getfield 19, 3) := by decide +kernel
theorem dX8_playBowing_80 : decode cX8_playBowing 80 = .ok (.dup, 1) := by decide +kernel
theorem dX8_playBowing_81 : decode cX8_playBowing 81 = .ok (.getfield 262, 3) := by decide +kernel
theorem dX8_playBowing_84 : decode cX8_playBowing 84 = .ok (.iload_n 3, 1) := by decide +kernel
theorem dX8_playBowing_85 : decode cX8_playBowing 85 = .ok (.iadd, 1) := by decide +kernel
theorem dX8_playBowing_86 : decode cX8_playBowing 86 = .ok (.putfield 262, 3) := by decide +kernel
theorem dX8_playBowing_89 : decode cX8_playBowing 89 = .ok (.aload_n 0, 1) := by decide +kernel
theorem dX8_playBowing_90 : decode cX8_playBowing 90 = .ok (.getfield 19, 3) := by decide +kernel
theorem dX8_playBowing_93 : decode cX8_playBowing 93 = .ok (.iload_n 2, 1) := by decide +kernel
theorem dX8_playBowing_94 : decode cX8_playBowing 94 = .ok (.putfield 187, 3) := by decide +kernel
theorem dX8_playBowing_97 : decode cX8_playBowing 97 = .ok (.iconst 1, 1) := by decide +kernel
theorem dX8_playBowing_98 : decode cX8_playBowing 98 = .ok (.ireturn, 1) := by decide +kernel
theorem dX8_isClamp_0 : decode cX8_isClamp 0 = .ok (.iload_n 1, 1) := by decide +kernel
theorem dX8_isClamp_1 : decode cX8_isClamp 1 = .ok (.ifCond .lt 18, 3) := by decide +kernel
theorem dX8_isClamp_4 : decode cX8_isClamp 4 = .ok (.iload_n 1, 1) := by decide +kernel
theorem dX8_isClamp_5 : decode cX8_isClamp 5 = .ok (.aload_n 0, 1) := by decide +kernel
theorem dX8_isClamp_6 : decode cX8_isClamp 6 = .ok (.getfield 19, 3) := by decide +kernel
theorem dX8_isClamp_9 : decode cX8_isClamp 9 = .ok (.getfield 98, 3) := by decide +kernel
theorem dX8_isClamp_12 : decode cX8_isClamp 12 = .ok (.if_icmp .ge 7, 3) := by decide +kernel
theorem dX8_isClamp_15 : decode cX8_isClamp 15 = .ok (.iconst 1, 1) := by decide +kernel
theorem dX8_isClamp_16 : decode cX8_isClamp 16 = .ok (.goto 4, 3) := by decide +kernel
theorem dX8_isClamp_19 : decode cX8_isClamp 19 = .ok (.iconst 0, 1) := by decide +kernel
theorem dX8_isClamp_20 : decode cX8_isClamp 20 = .ok (.ireturn, 1) := by decide +kernel
theorem dX8_isLine_0 : decode cX8_isLine 0 = .ok (.iload_n 0, 1) := by decide +kernel
theorem dX8_isLine_1 : decode cX8_isLine 1 = .ok (.ifCond .lt 13, 3) := by decide +kernel
theorem dX8_isLine_4 : decode cX8_isLine 4 = .ok (.iload_n 0, 1) := by decide +kernel
theorem dX8_isLine_5 : decode cX8_isLine 5 = .ok (.bipush 12, 2) := by decide +kernel
theorem dX8_isLine_7 : decode cX8_isLine 7 = .ok (.if_icmp .ge 7, 3) := by decide +kernel
theorem dX8_isLine_10 : decode cX8_isLine 10 = .ok (.iconst 1, 1) := by decide +kernel
theorem dX8_isLine_11 : decode cX8_isLine 11 = .ok (.goto 4, 3) := by decide +kernel
theorem dX8_isLine_14 : decode cX8_isLine 14 = .ok (.iconst 0, 1) := by decide +kernel
theorem dX8_isLine_15 : decode cX8_isLine 15 = .ok (.ireturn, 1) := by decide +kernel
theorem dX8_isPlace_0 : decode cX8_isPlace 0 = .ok (.iload_n 0, 1) := by decide +kernel
theorem dX8_isPlace_1 : decode cX8_isPlace 1 = .ok (.ifCond .lt 23, 3) := by decide +kernel
theorem dX8_isPlace_4 : decode cX8_isPlace 4 = .ok (.iload_n 0, 1) := by decide +kernel
theorem dX8_isPlace_5 : decode cX8_isPlace 5 = .ok (.bipush 12, 2) := by decide +kernel
theorem dX8_isPlace_7 : decode cX8_isPlace 7 = .ok (.if_icmp .ge 17, 3) := by decide +kernel
theorem dX8_isPlace_10 : decode cX8_isPlace 10 = .ok (.iload_n 1, 1) := by decide +kernel
theorem dX8_isPlace_11 : decode cX8_isPlace 11 = .ok (.ifCond .lt 13, 3) := by decide +kernel
theorem dX8_isPlace_14 : decode cX8_isPlace 14 = .ok (.iload_n 1, 1) := by decide +kernel
theorem dX8_isPlace_15 : decode cX8_isPlace 15 = .ok (.bipush 12, 2) := by decide +kernel
theorem dX8_isPlace_17 : decode cX8_isPlace 17 = .ok (.if_icmp .ge 7, 3) := by decide +kernel
theorem dX8_isPlace_20 : decode cX8_isPlace 20 = .ok (.iconst 1, 1) := by decide +kernel
theorem dX8_isPlace_21 : decode cX8_isPlace 21 = .ok (.goto 4, 3) := by decide +kernel
theorem dX8_isPlace_24 : decode cX8_isPlace 24 = .ok (.iconst 0, 1) := by decide +kernel
theorem dX8_isPlace_25 : decode cX8_isPlace 25 = .ok (.ireturn, 1) := by decide +kernel
theorem dX8_isWay_0 : decode cX8_isWay 0 = .ok (.iload_n 0, 1) := by decide +kernel
theorem dX8_isWay_1 : decode cX8_isWay 1 = .ok (.ifCond .lt 13, 3) := by decide +kernel
theorem dX8_isWay_4 : decode cX8_isWay 4 = .ok (.iload_n 0, 1) := by decide +kernel
theorem dX8_isWay_5 : decode cX8_isWay 5 = .ok (.bipush 48, 2) := by decide +kernel
theorem dX8_isWay_7 : decode cX8_isWay 7 = .ok (.if_icmp .ge 7, 3) := by decide +kernel
theorem dX8_isWay_10 : decode cX8_isWay 10 = .ok (.iconst 1, 1) := by decide +kernel
theorem dX8_isWay_11 : decode cX8_isWay 11 = .ok (.goto 4, 3) := by decide +kernel
theorem dX8_isWay_14 : decode cX8_isWay 14 = .ok (.iconst 0, 1) := by decide +kernel
theorem dX8_isWay_15 : decode cX8_isWay 15 = .ok (.ireturn, 1) := by decide +kernel
set_option maxRecDepth 20000 in
theorem ggX8_isBow_X8_isLine : GoodIn wsX8_isBow wsX8_isLine := goodIn_r _ [4] (by decide +kernel) (by decide +kernel)
set_option maxRecDepth 20000 in
theorem gX8_isBow_X8_isLine : GoodIn wsX8_isBow (va_wsS RX8 256 yX8_isLine wsX8_isLine) := goodIn_app (goodIn_of _ (by decide +kernel)) ggX8_isBow_X8_isLine
theorem dX8_isBow_0 : decode cX8_isBow 0 = .ok (.iload_n 0, 1) := by decide +kernel
theorem dX8_isBow_1 : decode cX8_isBow 1 = .ok (.ifCond .lt 19, 3) := by decide +kernel
theorem dX8_isBow_4 : decode cX8_isBow 4 = .ok (.iload_n 0, 1) := by decide +kernel
theorem dX8_isBow_5 : decode cX8_isBow 5 = .ok (.iconst 4, 1) := by decide +kernel
theorem dX8_isBow_6 : decode cX8_isBow 6 = .ok (.if_icmp .ge 14, 3) := by decide +kernel
theorem dX8_isBow_9 : decode cX8_isBow 9 = .ok (.iload_n 1, 1) := by decide +kernel
theorem dX8_isBow_10 : decode cX8_isBow 10 = .ok (.invokestatic 256, 3) := by decide +kernel
theorem dX8_isBow_13 : decode cX8_isBow 13 = .ok (.ifCond .eq 7, 3) := by decide +kernel
theorem dX8_isBow_16 : decode cX8_isBow 16 = .ok (.iconst 1, 1) := by decide +kernel
theorem dX8_isBow_17 : decode cX8_isBow 17 = .ok (.goto 4, 3) := by decide +kernel
theorem dX8_isBow_20 : decode cX8_isBow 20 = .ok (.iconst 0, 1) := by decide +kernel
theorem dX8_isBow_21 : decode cX8_isBow 21 = .ok (.ireturn, 1) := by decide +kernel
theorem dX8_placeOf_0 : decode cX8_placeOf 0 = .ok (.iload_n 1, 1) := by decide +kernel
theorem dX8_placeOf_1 : decode cX8_placeOf 1 = .ok (.bipush 12, 2) := by decide +kernel
theorem dX8_placeOf_3 : decode cX8_placeOf 3 = .ok (.imul, 1) := by decide +kernel
theorem dX8_placeOf_4 : decode cX8_placeOf 4 = .ok (.iload_n 0, 1) := by decide +kernel
theorem dX8_placeOf_5 : decode cX8_placeOf 5 = .ok (.iadd, 1) := by decide +kernel
theorem dX8_placeOf_6 : decode cX8_placeOf 6 = .ok (.ireturn, 1) := by decide +kernel
theorem dX8_columnOf_0 : decode cX8_columnOf 0 = .ok (.iload_n 0, 1) := by decide +kernel
theorem dX8_columnOf_1 : decode cX8_columnOf 1 = .ok (.bipush 12, 2) := by decide +kernel
theorem dX8_columnOf_3 : decode cX8_columnOf 3 = .ok (.irem, 1) := by decide +kernel
theorem dX8_columnOf_4 : decode cX8_columnOf 4 = .ok (.ireturn, 1) := by decide +kernel
theorem dX8_rowOf_0 : decode cX8_rowOf 0 = .ok (.iload_n 0, 1) := by decide +kernel
theorem dX8_rowOf_1 : decode cX8_rowOf 1 = .ok (.bipush 12, 2) := by decide +kernel
theorem dX8_rowOf_3 : decode cX8_rowOf 3 = .ok (.idiv, 1) := by decide +kernel
theorem dX8_rowOf_4 : decode cX8_rowOf 4 = .ok (.ireturn, 1) := by decide +kernel
theorem dX8_orNone_0 : decode cX8_orNone 0 = .ok (.iload_n 0, 1) := by decide +kernel
theorem dX8_orNone_1 : decode cX8_orNone 1 = .ok (.ifCond .lt 7, 3) := by decide +kernel
theorem dX8_orNone_4 : decode cX8_orNone 4 = .ok (.iload_n 0, 1) := by decide +kernel
theorem dX8_orNone_5 : decode cX8_orNone 5 = .ok (.goto 5, 3) := by decide +kernel
theorem dX8_orNone_8 : decode cX8_orNone 8 = .ok (.bipush (-5), 2) := by decide +kernel
theorem dX8_orNone_10 : decode cX8_orNone 10 = .ok (.ireturn, 1) := by decide +kernel
theorem dX8_asNumber_0 : decode cX8_asNumber 0 = .ok (.iload_n 0, 1) := by decide +kernel
theorem dX8_asNumber_1 : decode cX8_asNumber 1 = .ok (.ifCond .eq 7, 3) := by decide +kernel
theorem dX8_asNumber_4 : decode cX8_asNumber 4 = .ok (.iconst 1, 1) := by decide +kernel
theorem dX8_asNumber_5 : decode cX8_asNumber 5 = .ok (.goto 4, 3) := by decide +kernel
theorem dX8_asNumber_8 : decode cX8_asNumber 8 = .ok (.iconst 0, 1) := by decide +kernel
theorem dX8_asNumber_9 : decode cX8_asNumber 9 = .ok (.ireturn, 1) := by decide +kernel
set_option maxRecDepth 20000 in
theorem ggX9_init_X9_findWays : GoodIn wsX9_init wsX9_findWays := goodIn_r _ [21, 5, 6, 7, 8, 22, 23, 20, 24, 25, 26, 27, 28, 29, 30, 31, 32, 33, 34, 35, 36, 37, 38, 39, 40, 41, 42, 43] (by decide +kernel) (by decide +kernel)
set_option maxRecDepth 20000 in
theorem gX9_init_X9_findWays : GoodIn wsX9_init (wsV RX9 44 RX9 yX9_findWays wsX9_findWays) := goodIn_app (goodIn_of _ (by decide +kernel)) ggX9_init_X9_findWays
end
section
theorem dX9_init_0 : decode cX9_init 0 = .ok (.aload_n 0, 1) := by decide +kernel
theorem dX9_init_1 : decode cX9_init 1 = .ok (.invokespecial 1, 3) := by decide +kernel
theorem dX9_init_4 : decode cX9_init 4 = .ok (.aload_n 0, 1) := by decide +kernel
theorem dX9_init_5 : decode cX9_init 5 = .ok (.bipush 48, 2) := by decide +kernel
theorem dX9_init_7 : decode cX9_init 7 = .ok (.newarray .int, 2) := by decide +kernel
theorem dX9_init_9 : decode cX9_init 9 = .ok (.putfield 7, 3) := by decide +kernel
theorem dX9_init_12 : decode cX9_init 12 = .ok (.aload_n 0, 1) := by decide +kernel
theorem dX9_init_13 : decode cX9_init 13 = .ok (.bipush 48, 2) := by decide +kernel
theorem dX9_init_15 : decode cX9_init 15 = .ok (.newarray .int, 2) := by decide +kernel
theorem dX9_init_17 : decode cX9_init 17 = .ok (.putfield 13, 3) := by decide +kernel
theorem dX9_init_20 : decode cX9_init 20 = .ok (.aload_n 0, 1) := by decide +kernel
theorem dX9_init_21 : decode cX9_init 21 = .ok (.bipush 48, 2) := by decide +kernel
theorem dX9_init_23 : decode cX9_init 23 = .ok (.newarray .int, 2) := by decide +kernel
theorem dX9_init_25 : decode cX9_init 25 = .ok (.putfield 16, 3) := by decide +kernel
theorem dX9_init_28 : decode cX9_init 28 = .ok (.aload_n 0, 1) := by decide +kernel
theorem dX9_init_29 : decode cX9_init 29 = .ok (.sipush 6912, 3) := by decide +kernel
theorem dX9_init_32 : decode cX9_init 32 = .ok (.newarray .int, 2) := by decide +kernel
theorem dX9_init_34 : decode cX9_init 34 = .ok (.putfield 19, 3) := by decide +kernel
theorem dX9_init_37 : decode cX9_init 37 = .ok (.aload_n 0, 1) := by decide +kernel
theorem dX9_init_38 : decode cX9_init 38 = .ok (.sipush 208, 3) := by decide +kernel
theorem dX9_init_41 : decode cX9_init 41 = .ok (.newarray .int, 2) := by decide +kernel
theorem dX9_init_43 : decode cX9_init 43 = .ok (.putfield 22, 3) := by decide +kernel
theorem dX9_init_46 : decode cX9_init 46 = .ok (.aload_n 0, 1) := by decide +kernel
theorem dX9_init_47 : decode cX9_init 47 = .ok (.sipush 832, 3) := by decide +kernel
theorem dX9_init_50 : decode cX9_init 50 = .ok (.newarray .int, 2) := by decide +kernel
theorem dX9_init_52 : decode cX9_init 52 = .ok (.putfield 25, 3) := by decide +kernel
theorem dX9_init_55 : decode cX9_init 55 = .ok (.aload_n 0, 1) := by decide +kernel
theorem dX9_init_56 : decode cX9_init 56 = .ok (.sipush 208, 3) := by decide +kernel
theorem dX9_init_59 : decode cX9_init 59 = .ok (.newarray .int, 2) := by decide +kernel
theorem dX9_init_61 : decode cX9_init 61 = .ok (.putfield 28, 3) := by decide +kernel
theorem dX9_init_64 : decode cX9_init 64 = .ok (.aload_n 0, 1) := by decide +kernel
theorem dX9_init_65 : decode cX9_init 65 = .ok (.bipush 60, 2) := by decide +kernel
theorem dX9_init_67 : decode cX9_init 67 = .ok (.newarray .int, 2) := by decide +kernel
theorem dX9_init_69 : decode cX9_init 69 = .ok (.putfield 31, 3) := by decide +kernel
theorem dX9_init_72 : decode cX9_init 72 = .ok (.aload_n 0, 1) := by decide +kernel
theorem dX9_init_73 : decode cX9_init 73 = .ok (.sipush 144, 3) := by decide +kernel
theorem dX9_init_76 : decode cX9_init 76 = .ok (.newarray .int, 2) := by decide +kernel
theorem dX9_init_78 : decode cX9_init 78 = .ok (.putfield 34, 3) := by decide +kernel
theorem dX9_init_81 : decode cX9_init 81 = .ok (.aload_n 0, 1) := by decide +kernel
theorem dX9_init_82 : decode cX9_init 82 = .ok (.sipush 144, 3) := by decide +kernel
theorem dX9_init_85 : decode cX9_init 85 = .ok (.newarray .boolean, 2) := by decide +kernel
theorem dX9_init_87 : decode cX9_init 87 = .ok (.putfield 37, 3) := by decide +kernel
theorem dX9_init_90 : decode cX9_init 90 = .ok (.aload_n 0, 1) := by decide +kernel
theorem dX9_init_91 : decode cX9_init 91 = .ok (.sipush 144, 3) := by decide +kernel
theorem dX9_init_94 : decode cX9_init 94 = .ok (.newarray .int, 2) := by decide +kernel
theorem dX9_init_96 : decode cX9_init 96 = .ok (.putfield 41, 3) := by decide +kernel
theorem dX9_init_99 : decode cX9_init 99 = .ok (.aload_n 0, 1) := by decide +kernel
theorem dX9_init_100 : decode cX9_init 100 = .ok (.invokevirtual 44, 3) := by decide +kernel
theorem dX9_init_103 : decode cX9_init 103 = .ok (.iconst 0, 1) := by decide +kernel
theorem dX9_init_104 : decode cX9_init 104 = .ok (.istore_n 1, 1) := by decide +kernel
theorem dX9_init_105 : decode cX9_init 105 = .ok (.iload_n 1, 1) := by decide +kernel
theorem dX9_init_106 : decode cX9_init 106 = .ok (.sipush 144, 3) := by decide +kernel
theorem dX9_init_109 : decode cX9_init 109 = .ok (.if_icmp .ge 18, 3) := by decide +kernel
theorem dX9_init_112 : decode cX9_init 112 = .ok (.aload_n 0, 1) := by decide +kernel
theorem dX9_init_113 : decode cX9_init 113 = .ok (.getfield 22, 3) := by decide +kernel
theorem dX9_init_116 : decode cX9_init 116 = .ok (.iconst 0, 1) := by decide +kernel
theorem dX9_init_117 : decode cX9_init 117 = .ok (.iload_n 1, 1) := by decide +kernel
theorem dX9_init_118 : decode cX9_init 118 = .ok (.iadd, 1) := by decide +kernel
theorem dX9_init_119 : decode cX9_init 119 = .ok (.iconst 5, 1) := by decide +kernel
theorem dX9_init_120 : decode cX9_init 120 = .ok (.iastore, 1) := by decide +kernel
theorem dX9_init_121 : decode cX9_init 121 = .ok (.iinc 1 1, 3) := by decide +kernel
theorem dX9_init_124 : decode cX9_init 124 = .ok (.goto (-19), 3) := by decide +kernel
theorem dX9_init_127 : decode cX9_init 127 = .ok (.aload_n 0, 1) := by decide +kernel
theorem dX9_init_128 : decode cX9_init 128 = .ok (.getfield 22, 3) := by decide +kernel
theorem dX9_init_131 : decode cX9_init 131 = .ok (.sipush 148, 3) := by decide +kernel
theorem dX9_init_134 : decode cX9_init 134 = .ok (.sipush 720, 3) := by decide +kernel
theorem dX9_init_137 : decode cX9_init 137 = .ok (.iastore, 1) := by decide +kernel
theorem dX9_init_138 : decode cX9_init 138 = .ok (.aload_n 0, 1) := by decide +kernel
theorem dX9_init_139 : decode cX9_init 139 = .ok (.getfield 22, 3) := by decide +kernel
theorem dX9_init_142 : decode cX9_init 142 = .ok (.sipush 144, 3) := by decide +kernel
theorem dX9_init_145 : decode cX9_init 145 = .ok (.bipush 20, 2) := by decide +kernel
theorem dX9_init_147 : decode cX9_init 147 = .ok (.iastore, 1) := by decide +kernel
theorem dX9_init_148 : decode cX9_init 148 = .ok (.aload_n 0, 1) := by decide +kernel
theorem dX9_init_149 : decode cX9_init 149 = .ok (.getfield 22, 3) := by decide +kernel
theorem dX9_init_152 : decode cX9_init 152 = .ok (.sipush 145, 3) := by decide +kernel
theorem dX9_init_155 : decode cX9_init 155 = .ok (.bipush 60, 2) := by decide +kernel
theorem dX9_init_157 : decode cX9_init 157 = .ok (.iastore, 1) := by decide +kernel
theorem dX9_init_158 : decode cX9_init 158 = .ok (.aload_n 0, 1) := by decide +kernel
theorem dX9_init_159 : decode cX9_init 159 = .ok (.getfield 22, 3) := by decide +kernel
theorem dX9_init_162 : decode cX9_init 162 = .ok (.sipush 146, 3) := by decide +kernel
theorem dX9_init_165 : decode cX9_init 165 = .ok (.bipush 15, 2) := by decide +kernel
theorem dX9_init_167 : decode cX9_init 167 = .ok (.iastore, 1) := by decide +kernel
theorem dX9_init_168 : decode cX9_init 168 = .ok (.aload_n 0, 1) := by decide +kernel
theorem dX9_init_169 : decode cX9_init 169 = .ok (.getfield 22, 3) := by decide +kernel
theorem dX9_init_172 : decode cX9_init 172 = .ok (.sipush 147, 3) := by decide +kernel
theorem dX9_init_175 : decode cX9_init 175 = .ok (.sipush 150, 3) := by decide +kernel
theorem dX9_init_178 : decode cX9_init 178 = .ok (.iastore, 1) := by decide +kernel
theorem dX9_init_179 : decode cX9_init 179 = .ok (.aload_n 0, 1) := by decide +kernel
theorem dX9_init_180 : decode cX9_init 180 = .ok (.getfield 22, 3) := by decide +kernel
theorem dX9_init_183 : decode cX9_init 183 = .ok (.sipush 153, 3) := by decide +kernel
theorem dX9_init_186 : decode cX9_init 186 = .ok (.bipush (-5), 2) := by decide +kernel
theorem dX9_init_188 : decode cX9_init 188 = .ok (.iastore, 1) := by decide +kernel
theorem dX9_init_189 : decode cX9_init 189 = .ok (.return_, 1) := by decide +kernel
theorem dX9_in_0 : decode cX9_in 0 = .ok (.iload_n 0, 1) := by decide +kernel
theorem dX9_in_1 : decode cX9_in 1 = .ok (.iload_n 1, 1) := by decide +kernel
theorem dX9_in_2 : decode cX9_in 2 = .ok (.if_icmp .lt 12, 3) := by decide +kernel
theorem dX9_in_5 : decode cX9_in 5 = .ok (.iload_n 0, 1) := by decide +kernel
theorem dX9_in_6 : decode cX9_in 6 = .ok (.iload_n 2, 1) := by decide +kernel
theorem dX9_in_7 : decode cX9_in 7 = .ok (.if_icmp .gt 7, 3) := by decide +kernel
theorem dX9_in_10 : decode cX9_in 10 = .ok (.iconst 1, 1) := by decide +kernel
theorem dX9_in_11 : decode cX9_in 11 = .ok (.goto 4, 3) := by decide +kernel
theorem dX9_in_14 : decode cX9_in 14 = .ok (.iconst 0, 1) := by decide +kernel
theorem dX9_in_15 : decode cX9_in 15 = .ok (.ireturn, 1) := by decide +kernel
theorem dX9_wave_0 : decode cX9_wave 0 = .ok (.sipush 200, 3) := by decide +kernel
theorem dX9_wave_3 : decode cX9_wave 3 = .ok (.iload_n 0, 1) := by decide +kernel
theorem dX9_wave_4 : decode cX9_wave 4 = .ok (.imul, 1) := by decide +kernel
theorem dX9_wave_5 : decode cX9_wave 5 = .ok (.iload_n 1, 1) := by decide +kernel
theorem dX9_wave_6 : decode cX9_wave 6 = .ok (.imul, 1) := by decide +kernel
theorem dX9_wave_7 : decode cX9_wave 7 = .ok (.bipush 11, 2) := by decide +kernel
theorem dX9_wave_9 : decode cX9_wave 9 = .ok (.idiv, 1) := by decide +kernel
theorem dX9_wave_10 : decode cX9_wave 10 = .ok (.sipush 400, 3) := by decide +kernel
theorem dX9_wave_13 : decode cX9_wave 13 = .ok (.irem, 1) := by decide +kernel
theorem dX9_wave_14 : decode cX9_wave 14 = .ok (.istore_n 2, 1) := by decide +kernel
theorem dX9_wave_15 : decode cX9_wave 15 = .ok (.iload_n 2, 1) := by decide +kernel
theorem dX9_wave_16 : decode cX9_wave 16 = .ok (.sipush 200, 3) := by decide +kernel
theorem dX9_wave_19 : decode cX9_wave 19 = .ok (.if_icmp .gt 10, 3) := by decide +kernel
theorem dX9_wave_22 : decode cX9_wave 22 = .ok (.bipush 100, 2) := by decide +kernel
theorem dX9_wave_24 : decode cX9_wave 24 = .ok (.iload_n 2, 1) := by decide +kernel
theorem dX9_wave_25 : decode cX9_wave 25 = .ok (.isub, 1) := by decide +kernel
theorem dX9_wave_26 : decode cX9_wave 26 = .ok (.goto 8, 3) := by decide +kernel
theorem dX9_wave_29 : decode cX9_wave 29 = .ok (.iload_n 2, 1) := by decide +kernel
theorem dX9_wave_30 : decode cX9_wave 30 = .ok (.sipush 300, 3) := by decide +kernel
theorem dX9_wave_33 : decode cX9_wave 33 = .ok (.isub, 1) := by decide +kernel
theorem dX9_wave_34 : decode cX9_wave 34 = .ok (.ireturn, 1) := by decide +kernel
theorem dX9_size_0 : decode cX9_size 0 = .ok (.iload_n 0, 1) := by decide +kernel
theorem dX9_size_1 : decode cX9_size 1 = .ok (.ifCond .ge 8, 3) := by decide +kernel
theorem dX9_size_4 : decode cX9_size 4 = .ok (.iload_n 0, 1) := by decide +kernel
theorem dX9_size_5 : decode cX9_size 5 = .ok (.ineg, 1) := by decide +kernel
theorem dX9_size_6 : decode cX9_size 6 = .ok (.goto 4, 3) := by decide +kernel
theorem dX9_size_9 : decode cX9_size 9 = .ok (.iload_n 0, 1) := by decide +kernel
theorem dX9_size_10 : decode cX9_size 10 = .ok (.ireturn, 1) := by decide +kernel
theorem dX9_noteOf_0 : decode cX9_noteOf 0 = .ok (.bipush 10, 2) := by decide +kernel
theorem dX9_noteOf_2 : decode cX9_noteOf 2 = .ok (.aload_n 0, 1) := by decide +kernel
theorem dX9_noteOf_3 : decode cX9_noteOf 3 = .ok (.getfield 7, 3) := by decide +kernel
theorem dX9_noteOf_6 : decode cX9_noteOf 6 = .ok (.iload_n 1, 1) := by decide +kernel
theorem dX9_noteOf_7 : decode cX9_noteOf 7 = .ok (.iaload, 1) := by decide +kernel
theorem dX9_noteOf_8 : decode cX9_noteOf 8 = .ok (.aload_n 0, 1) := by decide +kernel
theorem dX9_noteOf_9 : decode cX9_noteOf 9 = .ok (.getfield 7, 3) := by decide +kernel
theorem dX9_noteOf_12 : decode cX9_noteOf 12 = .ok (.iload_n 1, 1) := by decide +kernel
theorem dX9_noteOf_13 : decode cX9_noteOf 13 = .ok (.iaload, 1) := by decide +kernel
theorem dX9_noteOf_14 : decode cX9_noteOf 14 = .ok (.imul, 1) := by decide +kernel
theorem dX9_noteOf_15 : decode cX9_noteOf 15 = .ok (.aload_n 0, 1) := by decide +kernel
theorem dX9_noteOf_16 : decode cX9_noteOf 16 = .ok (.getfield 13, 3) := by decide +kernel
theorem dX9_noteOf_19 : decode cX9_noteOf 19 = .ok (.iload_n 1, 1) := by decide +kernel
theorem dX9_noteOf_20 : decode cX9_noteOf 20 = .ok (.iaload, 1) := by decide +kernel
theorem dX9_noteOf_21 : decode cX9_noteOf 21 = .ok (.aload_n 0, 1) := by decide +kernel
theorem dX9_noteOf_22 : decode cX9_noteOf 22 = .ok (.getfield 13, 3) := by decide +kernel
theorem dX9_noteOf_25 : decode cX9_noteOf 25 = .ok (.iload_n 1, 1) := by decide +kernel
theorem dX9_noteOf_26 : decode cX9_noteOf 26 = .ok (.iaload, 1) := by decide +kernel
theorem dX9_noteOf_27 : decode cX9_noteOf 27 = .ok (.imul, 1) := by decide +kernel
theorem dX9_noteOf_28 : decode cX9_noteOf 28 = .ok (.iadd, 1) := by decide +kernel
theorem dX9_noteOf_29 : decode cX9_noteOf 29 = .ok (.imul, 1) := by decide +kernel
theorem dX9_noteOf_30 : decode cX9_noteOf 30 = .ok (.aload_n 0, 1) := by decide +kernel
theorem dX9_noteOf_31 : decode cX9_noteOf 31 = .ok (.getfield 16, 3) := by decide +kernel
theorem dX9_noteOf_34 : decode cX9_noteOf 34 = .ok (.iload_n 1, 1) := by decide +kernel
theorem dX9_noteOf_35 : decode cX9_noteOf 35 = .ok (.iaload, 1) := by decide +kernel
theorem dX9_noteOf_36 : decode cX9_noteOf 36 = .ok (.iadd, 1) := by decide +kernel
theorem dX9_noteOf_37 : decode cX9_noteOf 37 = .ok (.ireturn, 1) := by decide +kernel
set_option maxRecDepth 20000 in
theorem ggX9_findWays_X9_wave : GoodIn wsX9_findWays wsX9_wave := goodIn_r _ [8] (by decide +kernel) (by decide +kernel)
set_option maxRecDepth 20000 in
theorem gX9_findWays_X9_wave : GoodIn wsX9_findWays (va_wsS RX9 47 yX9_wave wsX9_wave) := goodIn_app (goodIn_of _ (by decide +kernel)) ggX9_findWays_X9_wave
set_option maxRecDepth 20000 in
theorem ggX9_findWays_X9_size : GoodIn wsX9_findWays wsX9_size := goodIn_r _ [11] (by decide +kernel) (by decide +kernel)
set_option maxRecDepth 20000 in
theorem gX9_findWays_X9_size : GoodIn wsX9_findWays (va_wsS RX9 51 yX9_size wsX9_size) := goodIn_app (goodIn_of _ (by decide +kernel)) ggX9_findWays_X9_size
theorem dX9_findWays_0 : decode cX9_findWays 0 = .ok (.iconst 0, 1) := by decide +kernel
theorem dX9_findWays_1 : decode cX9_findWays 1 = .ok (.istore_n 1, 1) := by decide +kernel
theorem dX9_findWays_2 : decode cX9_findWays 2 = .ok (.bipush 10, 2) := by decide +kernel
theorem dX9_findWays_4 : decode cX9_findWays 4 = .ok (.istore_n 2, 1) := by decide +kernel
theorem dX9_findWays_5 : decode cX9_findWays 5 = .ok (.iload_n 2, 1) := by decide +kernel
theorem dX9_findWays_6 : decode cX9_findWays 6 = .ok (.sipush 721, 3) := by decide +kernel
theorem dX9_findWays_9 : decode cX9_findWays 9 = .ok (.if_icmp .gt 119, 3) := by decide +kernel
theorem dX9_findWays_12 : decode cX9_findWays 12 = .ok (.iconst 0, 1) := by decide +kernel
theorem dX9_findWays_13 : decode cX9_findWays 13 = .ok (.istore_n 3, 1) := by decide +kernel
theorem dX9_findWays_14 : decode cX9_findWays 14 = .ok (.iload_n 3, 1) := by decide +kernel
theorem dX9_findWays_15 : decode cX9_findWays 15 = .ok (.bipush 6, 2) := by decide +kernel
theorem dX9_findWays_17 : decode cX9_findWays 17 = .ok (.if_icmp .gt 105, 3) := by decide +kernel
theorem dX9_findWays_20 : decode cX9_findWays 20 = .ok (.iload_n 3, 1) := by decide +kernel
theorem dX9_findWays_21 : decode cX9_findWays 21 = .ok (.istore 4, 2) := by decide +kernel
theorem dX9_findWays_23 : decode cX9_findWays 23 = .ok (.iload 4, 2) := by decide +kernel
theorem dX9_findWays_25 : decode cX9_findWays 25 = .ok (.bipush 6, 2) := by decide +kernel
theorem dX9_findWays_27 : decode cX9_findWays 27 = .ok (.if_icmp .gt 89, 3) := by decide +kernel
theorem dX9_findWays_30 : decode cX9_findWays 30 = .ok (.iload_n 2, 1) := by decide +kernel
theorem dX9_findWays_31 : decode cX9_findWays 31 = .ok (.bipush 10, 2) := by decide +kernel
theorem dX9_findWays_33 : decode cX9_findWays 33 = .ok (.irem, 1) := by decide +kernel
theorem dX9_findWays_34 : decode cX9_findWays 34 = .ok (.istore 5, 2) := by decide +kernel
theorem dX9_findWays_36 : decode cX9_findWays 36 = .ok (.bipush 10, 2) := by decide +kernel
theorem dX9_findWays_38 : decode cX9_findWays 38 = .ok (.iload_n 3, 1) := by decide +kernel
theorem dX9_findWays_39 : decode cX9_findWays 39 = .ok (.iload_n 3, 1) := by decide +kernel
theorem dX9_findWays_40 : decode cX9_findWays 40 = .ok (.imul, 1) := by decide +kernel
theorem dX9_findWays_41 : decode cX9_findWays 41 = .ok (.iload 4, 2) := by decide +kernel
theorem dX9_findWays_43 : decode cX9_findWays 43 = .ok (.iload 4, 2) := by decide +kernel
theorem dX9_findWays_45 : decode cX9_findWays 45 = .ok (.imul, 1) := by decide +kernel
theorem dX9_findWays_46 : decode cX9_findWays 46 = .ok (.iadd, 1) := by decide +kernel
theorem dX9_findWays_47 : decode cX9_findWays 47 = .ok (.imul, 1) := by decide +kernel
theorem dX9_findWays_48 : decode cX9_findWays 48 = .ok (.iload 5, 2) := by decide +kernel
theorem dX9_findWays_50 : decode cX9_findWays 50 = .ok (.iadd, 1) := by decide +kernel
theorem dX9_findWays_51 : decode cX9_findWays 51 = .ok (.iload_n 2, 1) := by decide +kernel
theorem dX9_findWays_52 : decode cX9_findWays 52 = .ok (.if_icmp .ne 24, 3) := by decide +kernel
theorem dX9_findWays_55 : decode cX9_findWays 55 = .ok (.iload 5, 2) := by decide +kernel
theorem dX9_findWays_57 : decode cX9_findWays 57 = .ok (.iconst 2, 1) := by decide +kernel
theorem dX9_findWays_58 : decode cX9_findWays 58 = .ok (.if_icmp .ge 18, 3) := by decide +kernel
theorem dX9_findWays_61 : decode cX9_findWays 61 = .ok (.iload_n 3, 1) := by decide +kernel
theorem dX9_findWays_62 : decode cX9_findWays 62 = .ok (.iload 4, 2) := by decide +kernel
theorem dX9_findWays_64 : decode cX9_findWays 64 = .ok (.if_icmp .lt 8, 3) := by decide +kernel
theorem dX9_findWays_67 : decode cX9_findWays 67 = .ok (.iload 5, 2) := by decide +kernel
theorem dX9_findWays_69 : decode cX9_findWays 69 = .ok (.ifCond .ne 7, 3) := by decide +kernel
theorem dX9_findWays_72 : decode cX9_findWays 72 = .ok (.iconst 1, 1) := by decide +kernel
theorem dX9_findWays_73 : decode cX9_findWays 73 = .ok (.goto 4, 3) := by decide +kernel
theorem dX9_findWays_76 : decode cX9_findWays 76 = .ok (.iconst 0, 1) := by decide +kernel
theorem dX9_findWays_77 : decode cX9_findWays 77 = .ok (.istore 6, 2) := by decide +kernel
theorem dX9_findWays_79 : decode cX9_findWays 79 = .ok (.iload 6, 2) := by decide +kernel
theorem dX9_findWays_81 : decode cX9_findWays 81 = .ok (.ifCond .eq 29, 3) := by decide +kernel
theorem dX9_findWays_84 : decode cX9_findWays 84 = .ok (.aload_n 0, 1) := by decide +kernel
theorem dX9_findWays_85 : decode cX9_findWays 85 = .ok (.getfield 7, 3) := by decide +kernel
theorem dX9_findWays_88 : decode cX9_findWays 88 = .ok (.iload_n 1, 1) := by decide +kernel
theorem dX9_findWays_89 : decode cX9_findWays 89 = .ok (.iload_n 3, 1) := by decide +kernel
theorem dX9_findWays_90 : decode cX9_findWays 90 = .ok (.iastore, 1) := by decide +kernel
theorem dX9_findWays_91 : decode cX9_findWays 91 = .ok (.aload_n 0, 1) := by decide +kernel
theorem dX9_findWays_92 : decode cX9_findWays 92 = .ok (.getfield 13, 3) := by decide +kernel
theorem dX9_findWays_95 : decode cX9_findWays 95 = .ok (.iload_n 1, 1) := by decide +kernel
theorem dX9_findWays_96 : decode cX9_findWays 96 = .ok (.iload 4, 2) := by decide +kernel
theorem dX9_findWays_98 : decode cX9_findWays 98 = .ok (.iastore, 1) := by decide +kernel
theorem dX9_findWays_99 : decode cX9_findWays 99 = .ok (.aload_n 0, 1) := by decide +kernel
theorem dX9_findWays_100 : decode cX9_findWays 100 = .ok (.getfield 16, 3) := by decide +kernel
theorem dX9_findWays_103 : decode cX9_findWays 103 = .ok (.iload_n 1, 1) := by decide +kernel
theorem dX9_findWays_104 : decode cX9_findWays 104 = .ok (.iload 5, 2) := by decide +kernel
theorem dX9_findWays_106 : decode cX9_findWays 106 = .ok (.iastore, 1) := by decide +kernel
theorem dX9_findWays_107 : decode cX9_findWays 107 = .ok (.iinc 1 1, 3) := by decide +kernel
theorem dX9_findWays_110 : decode cX9_findWays 110 = .ok (.iinc 4 1, 3) := by decide +kernel
theorem dX9_findWays_113 : decode cX9_findWays 113 = .ok (.goto (-90), 3) := by decide +kernel
theorem dX9_findWays_116 : decode cX9_findWays 116 = .ok (.iinc 3 1, 3) := by decide +kernel
theorem dX9_findWays_119 : decode cX9_findWays 119 = .ok (.goto (-105), 3) := by decide +kernel
theorem dX9_findWays_122 : decode cX9_findWays 122 = .ok (.iinc 2 1, 3) := by decide +kernel
theorem dX9_findWays_125 : decode cX9_findWays 125 = .ok (.goto (-120), 3) := by decide +kernel
theorem dX9_findWays_128 : decode cX9_findWays 128 = .ok (.iconst 0, 1) := by decide +kernel
theorem dX9_findWays_129 : decode cX9_findWays 129 = .ok (.istore_n 2, 1) := by decide +kernel
theorem dX9_findWays_130 : decode cX9_findWays 130 = .ok (.iload_n 2, 1) := by decide +kernel
theorem dX9_findWays_131 : decode cX9_findWays 131 = .ok (.sipush 6912, 3) := by decide +kernel
theorem dX9_findWays_134 : decode cX9_findWays 134 = .ok (.if_icmp .ge 116, 3) := by decide +kernel
theorem dX9_findWays_137 : decode cX9_findWays 137 = .ok (.iload_n 2, 1) := by decide +kernel
theorem dX9_findWays_138 : decode cX9_findWays 138 = .ok (.sipush 144, 3) := by decide +kernel
theorem dX9_findWays_141 : decode cX9_findWays 141 = .ok (.idiv, 1) := by decide +kernel
theorem dX9_findWays_142 : decode cX9_findWays 142 = .ok (.istore_n 3, 1) := by decide +kernel
theorem dX9_findWays_143 : decode cX9_findWays 143 = .ok (.iload_n 2, 1) := by decide +kernel
theorem dX9_findWays_144 : decode cX9_findWays 144 = .ok (.bipush 12, 2) := by decide +kernel
theorem dX9_findWays_146 : decode cX9_findWays 146 = .ok (.irem, 1) := by decide +kernel
theorem dX9_findWays_147 : decode cX9_findWays 147 = .ok (.istore 4, 2) := by decide +kernel
theorem dX9_findWays_149 : decode cX9_findWays 149 = .ok (.iload_n 2, 1) := by decide +kernel
theorem dX9_findWays_150 : decode cX9_findWays 150 = .ok (.sipush 144, 3) := by decide +kernel
theorem dX9_findWays_153 : decode cX9_findWays 153 = .ok (.irem, 1) := by decide +kernel
theorem dX9_findWays_154 : decode cX9_findWays 154 = .ok (.bipush 12, 2) := by decide +kernel
theorem dX9_findWays_156 : decode cX9_findWays 156 = .ok (.idiv, 1) := by decide +kernel
theorem dX9_findWays_157 : decode cX9_findWays 157 = .ok (.istore 5, 2) := by decide +kernel
theorem dX9_findWays_159 : decode cX9_findWays 159 = .ok (.aload_n 0, 1) := by decide +kernel
theorem dX9_findWays_160 : decode cX9_findWays 160 = .ok (.getfield 7, 3) := by decide +kernel
theorem dX9_findWays_163 : decode cX9_findWays 163 = .ok (.iload_n 3, 1) := by decide +kernel
theorem dX9_findWays_164 : decode cX9_findWays 164 = .ok (.iaload, 1) := by decide +kernel
theorem dX9_findWays_165 : decode cX9_findWays 165 = .ok (.iload 4, 2) := by decide +kernel
theorem dX9_findWays_167 : decode cX9_findWays 167 = .ok (.invokestatic 47, 3) := by decide +kernel
theorem dX9_findWays_170 : decode cX9_findWays 170 = .ok (.aload_n 0, 1) := by decide +kernel
theorem dX9_findWays_171 : decode cX9_findWays 171 = .ok (.getfield 13, 3) := by decide +kernel
theorem dX9_findWays_174 : decode cX9_findWays 174 = .ok (.iload_n 3, 1) := by decide +kernel
theorem dX9_findWays_175 : decode cX9_findWays 175 = .ok (.iaload, 1) := by decide +kernel
theorem dX9_findWays_176 : decode cX9_findWays 176 = .ok (.iload 5, 2) := by decide +kernel
theorem dX9_findWays_178 : decode cX9_findWays 178 = .ok (.invokestatic 47, 3) := by decide +kernel
theorem dX9_findWays_181 : decode cX9_findWays 181 = .ok (.imul, 1) := by decide +kernel
theorem dX9_findWays_182 : decode cX9_findWays 182 = .ok (.istore 6, 2) := by decide +kernel
theorem dX9_findWays_184 : decode cX9_findWays 184 = .ok (.aload_n 0, 1) := by decide +kernel
theorem dX9_findWays_185 : decode cX9_findWays 185 = .ok (.getfield 13, 3) := by decide +kernel
theorem dX9_findWays_188 : decode cX9_findWays 188 = .ok (.iload_n 3, 1) := by decide +kernel
theorem dX9_findWays_189 : decode cX9_findWays 189 = .ok (.iaload, 1) := by decide +kernel
theorem dX9_findWays_190 : decode cX9_findWays 190 = .ok (.iload 4, 2) := by decide +kernel
theorem dX9_findWays_192 : decode cX9_findWays 192 = .ok (.invokestatic 47, 3) := by decide +kernel
theorem dX9_findWays_195 : decode cX9_findWays 195 = .ok (.aload_n 0, 1) := by decide +kernel
theorem dX9_findWays_196 : decode cX9_findWays 196 = .ok (.getfield 7, 3) := by decide +kernel
theorem dX9_findWays_199 : decode cX9_findWays 199 = .ok (.iload_n 3, 1) := by decide +kernel
theorem dX9_findWays_200 : decode cX9_findWays 200 = .ok (.iaload, 1) := by decide +kernel
theorem dX9_findWays_201 : decode cX9_findWays 201 = .ok (.iload 5, 2) := by decide +kernel
theorem dX9_findWays_203 : decode cX9_findWays 203 = .ok (.invokestatic 47, 3) := by decide +kernel
theorem dX9_findWays_206 : decode cX9_findWays 206 = .ok (.imul, 1) := by decide +kernel
theorem dX9_findWays_207 : decode cX9_findWays 207 = .ok (.istore 7, 2) := by decide +kernel
theorem dX9_findWays_209 : decode cX9_findWays 209 = .ok (.aload_n 0, 1) := by decide +kernel
theorem dX9_findWays_210 : decode cX9_findWays 210 = .ok (.getfield 19, 3) := by decide +kernel
theorem dX9_findWays_213 : decode cX9_findWays 213 = .ok (.iload_n 2, 1) := by decide +kernel
theorem dX9_findWays_214 : decode cX9_findWays 214 = .ok (.aload_n 0, 1) := by decide +kernel
theorem dX9_findWays_215 : decode cX9_findWays 215 = .ok (.getfield 16, 3) := by decide +kernel
theorem dX9_findWays_218 : decode cX9_findWays 218 = .ok (.iload_n 3, 1) := by decide +kernel
theorem dX9_findWays_219 : decode cX9_findWays 219 = .ok (.iaload, 1) := by decide +kernel
theorem dX9_findWays_220 : decode cX9_findWays 220 = .ok (.iconst 1, 1) := by decide +kernel
theorem dX9_findWays_221 : decode cX9_findWays 221 = .ok (.if_icmp .ne 11, 3) := by decide +kernel
theorem dX9_findWays_224 : decode cX9_findWays 224 = .ok (.iload 6, 2) := by decide +kernel
theorem dX9_findWays_226 : decode cX9_findWays 226 = .ok (.iload 7, 2) := by decide +kernel
theorem dX9_findWays_228 : decode cX9_findWays 228 = .ok (.isub, 1) := by decide +kernel
theorem dX9_findWays_229 : decode cX9_findWays 229 = .ok (.goto 8, 3) := by decide +kernel
theorem dX9_findWays_232 : decode cX9_findWays 232 = .ok (.iload 6, 2) := by decide +kernel
theorem dX9_findWays_234 : decode cX9_findWays 234 = .ok (.iload 7, 2) := by decide +kernel
theorem dX9_findWays_236 : decode cX9_findWays 236 = .ok (.iadd, 1) := by decide +kernel
theorem dX9_findWays_237 : decode cX9_findWays 237 = .ok (.bipush 100, 2) := by decide +kernel
theorem dX9_findWays_239 : decode cX9_findWays 239 = .ok (.idiv, 1) := by decide +kernel
theorem dX9_findWays_240 : decode cX9_findWays 240 = .ok (.invokestatic 51, 3) := by decide +kernel
theorem dX9_findWays_243 : decode cX9_findWays 243 = .ok (.iastore, 1) := by decide +kernel
theorem dX9_findWays_244 : decode cX9_findWays 244 = .ok (.iinc 2 1, 3) := by decide +kernel
theorem dX9_findWays_247 : decode cX9_findWays 247 = .ok (.goto (-117), 3) := by decide +kernel
theorem dX9_findWays_250 : decode cX9_findWays 250 = .ok (.return_, 1) := by decide +kernel
theorem dX9_swingAt_0 : decode cX9_swingAt 0 = .ok (.aload_n 0, 1) := by decide +kernel
theorem dX9_swingAt_1 : decode cX9_swingAt 1 = .ok (.getfield 19, 3) := by decide +kernel
theorem dX9_swingAt_4 : decode cX9_swingAt 4 = .ok (.sipush 144, 3) := by decide +kernel
theorem dX9_swingAt_7 : decode cX9_swingAt 7 = .ok (.iload_n 1, 1) := by decide +kernel
theorem dX9_swingAt_8 : decode cX9_swingAt 8 = .ok (.imul, 1) := by decide +kernel
theorem dX9_swingAt_9 : decode cX9_swingAt 9 = .ok (.iload_n 2, 1) := by decide +kernel
theorem dX9_swingAt_10 : decode cX9_swingAt 10 = .ok (.iadd, 1) := by decide +kernel
theorem dX9_swingAt_11 : decode cX9_swingAt 11 = .ok (.iaload, 1) := by decide +kernel
theorem dX9_swingAt_12 : decode cX9_swingAt 12 = .ok (.ireturn, 1) := by decide +kernel
set_option maxRecDepth 20000 in
theorem ggX9_isOn_X9_in : GoodIn wsX9_isOn wsX9_in := goodIn_r _ [4] (by decide +kernel) (by decide +kernel)
set_option maxRecDepth 20000 in
theorem gX9_isOn_X9_in : GoodIn wsX9_isOn (va_wsS RX9 55 yX9_in wsX9_in) := goodIn_app (goodIn_of _ (by decide +kernel)) ggX9_isOn_X9_in
theorem dX9_isOn_0 : decode cX9_isOn 0 = .ok (.iload_n 0, 1) := by decide +kernel
theorem dX9_isOn_1 : decode cX9_isOn 1 = .ok (.iconst 0, 1) := by decide +kernel
theorem dX9_isOn_2 : decode cX9_isOn 2 = .ok (.bipush 11, 2) := by decide +kernel
theorem dX9_isOn_4 : decode cX9_isOn 4 = .ok (.invokestatic 55, 3) := by decide +kernel
theorem dX9_isOn_7 : decode cX9_isOn 7 = .ok (.ifCond .eq 17, 3) := by decide +kernel
theorem dX9_isOn_10 : decode cX9_isOn 10 = .ok (.iload_n 1, 1) := by decide +kernel
theorem dX9_isOn_11 : decode cX9_isOn 11 = .ok (.iconst 0, 1) := by decide +kernel
theorem dX9_isOn_12 : decode cX9_isOn 12 = .ok (.bipush 11, 2) := by decide +kernel
theorem dX9_isOn_14 : decode cX9_isOn 14 = .ok (.invokestatic 55, 3) := by decide +kernel
theorem dX9_isOn_17 : decode cX9_isOn 17 = .ok (.ifCond .eq 7, 3) := by decide +kernel
theorem dX9_isOn_20 : decode cX9_isOn 20 = .ok (.iconst 1, 1) := by decide +kernel
theorem dX9_isOn_21 : decode cX9_isOn 21 = .ok (.goto 4, 3) := by decide +kernel
theorem dX9_isOn_24 : decode cX9_isOn 24 = .ok (.iconst 0, 1) := by decide +kernel
theorem dX9_isOn_25 : decode cX9_isOn 25 = .ok (.ireturn, 1) := by decide +kernel
set_option maxRecDepth 20000 in
theorem ggX9_isWay_X9_in : GoodIn wsX9_isWay wsX9_in := goodIn_r _ [4] (by decide +kernel) (by decide +kernel)
set_option maxRecDepth 20000 in
theorem gX9_isWay_X9_in : GoodIn wsX9_isWay (va_wsS RX9 55 yX9_in wsX9_in) := goodIn_app (goodIn_of _ (by decide +kernel)) ggX9_isWay_X9_in
theorem dX9_isWay_0 : decode cX9_isWay 0 = .ok (.iload_n 0, 1) := by decide +kernel
theorem dX9_isWay_1 : decode cX9_isWay 1 = .ok (.iconst 0, 1) := by decide +kernel
theorem dX9_isWay_2 : decode cX9_isWay 2 = .ok (.bipush 47, 2) := by decide +kernel
theorem dX9_isWay_4 : decode cX9_isWay 4 = .ok (.invokestatic 55, 3) := by decide +kernel
theorem dX9_isWay_7 : decode cX9_isWay 7 = .ok (.ireturn, 1) := by decide +kernel
set_option maxRecDepth 20000 in
theorem ggX9_isBow_X9_in : GoodIn wsX9_isBow wsX9_in := goodIn_r _ [4] (by decide +kernel) (by decide +kernel)
set_option maxRecDepth 20000 in
theorem gX9_isBow_X9_in : GoodIn wsX9_isBow (va_wsS RX9 55 yX9_in wsX9_in) := goodIn_app (goodIn_of _ (by decide +kernel)) ggX9_isBow_X9_in
theorem dX9_isBow_0 : decode cX9_isBow 0 = .ok (.iload_n 0, 1) := by decide +kernel
theorem dX9_isBow_1 : decode cX9_isBow 1 = .ok (.iconst 0, 1) := by decide +kernel
theorem dX9_isBow_2 : decode cX9_isBow 2 = .ok (.iconst 3, 1) := by decide +kernel
theorem dX9_isBow_3 : decode cX9_isBow 3 = .ok (.invokestatic 55, 3) := by decide +kernel
theorem dX9_isBow_6 : decode cX9_isBow 6 = .ok (.ifCond .eq 17, 3) := by decide +kernel
theorem dX9_isBow_9 : decode cX9_isBow 9 = .ok (.iload_n 1, 1) := by decide +kernel
theorem dX9_isBow_10 : decode cX9_isBow 10 = .ok (.iconst 0, 1) := by decide +kernel
theorem dX9_isBow_11 : decode cX9_isBow 11 = .ok (.bipush 11, 2) := by decide +kernel
theorem dX9_isBow_13 : decode cX9_isBow 13 = .ok (.invokestatic 55, 3) := by decide +kernel
theorem dX9_isBow_16 : decode cX9_isBow 16 = .ok (.ifCond .eq 7, 3) := by decide +kernel
theorem dX9_isBow_19 : decode cX9_isBow 19 = .ok (.iconst 1, 1) := by decide +kernel
theorem dX9_isBow_20 : decode cX9_isBow 20 = .ok (.goto 4, 3) := by decide +kernel
theorem dX9_isBow_23 : decode cX9_isBow 23 = .ok (.iconst 0, 1) := by decide +kernel
theorem dX9_isBow_24 : decode cX9_isBow 24 = .ok (.ireturn, 1) := by decide +kernel
theorem dX9_know_0 : decode cX9_know 0 = .ok (.aload_n 0, 1) := by decide +kernel
theorem dX9_know_1 : decode cX9_know 1 = .ok (.getfield 59, 3) := by decide +kernel
theorem dX9_know_4 : decode cX9_know 4 = .ok (.iconst 4, 1) := by decide +kernel
theorem dX9_know_5 : decode cX9_know 5 = .ok (.if_icmp .ne 44, 3) := by decide +kernel
theorem dX9_know_8 : decode cX9_know 8 = .ok (.iconst 0, 1) := by decide +kernel
theorem dX9_know_9 : decode cX9_know 9 = .ok (.istore_n 1, 1) := by decide +kernel
theorem dX9_know_10 : decode cX9_know 10 = .ok (.iload_n 1, 1) := by decide +kernel
theorem dX9_know_11 : decode cX9_know 11 = .ok (.sipush 624, 3) := by decide +kernel
theorem dX9_know_14 : decode cX9_know 14 = .ok (.if_icmp .ge 25, 3) := by decide +kernel
theorem dX9_know_17 : decode cX9_know 17 = .ok (.aload_n 0, 1) := by decide +kernel
theorem dX9_know_18 : decode cX9_know 18 = .ok (.getfield 25, 3) := by decide +kernel
theorem dX9_know_21 : decode cX9_know 21 = .ok (.iload_n 1, 1) := by decide +kernel
theorem dX9_know_22 : decode cX9_know 22 = .ok (.aload_n 0, 1) := by decide +kernel
theorem dX9_know_23 : decode cX9_know 23 = .ok (.getfield 25, 3) := by decide +kernel
theorem dX9_know_26 : decode cX9_know 26 = .ok (.sipush 208, 3) := by decide +kernel
theorem dX9_know_29 : decode cX9_know 29 = .ok (.iload_n 1, 1) := by decide +kernel
theorem dX9_know_30 : decode cX9_know 30 = .ok (.iadd, 1) := by decide +kernel
theorem dX9_know_31 : decode cX9_know 31 = .ok (.iaload, 1) := by decide +kernel
theorem dX9_know_32 : decode cX9_know 32 = .ok (.iastore, 1) := by decide +kernel
theorem dX9_know_33 : decode cX9_know 33 = .ok (.iinc 1 1, 3) := by decide +kernel
theorem dX9_know_36 : decode cX9_know 36 = .ok (.goto (-26), 3) := by decide +kernel
theorem dX9_know_39 : decode cX9_know 39 = .ok (.aload_n 0, 1) := by decide +kernel
theorem dX9_know_40 : decode cX9_know 40 = .ok (.dup, 1) := by decide +kernel
theorem dX9_know_41 : decode cX9_know 41 = .ok (.getfield 59, 3) := by decide +kernel
theorem dX9_know_44 : decode cX9_know 44 = .ok (.iconst 1, 1) := by decide +kernel
theorem dX9_know_45 : decode cX9_know 45 = .ok (.isub, 1) := by decide +kernel
theorem dX9_know_46 : decode cX9_know 46 = .ok (.putfield 59, 3) := by decide +kernel
theorem dX9_know_49 : decode cX9_know 49 = .ok (.iconst 0, 1) := by decide +kernel
theorem dX9_know_50 : decode cX9_know 50 = .ok (.istore_n 1, 1) := by decide +kernel
theorem dX9_know_51 : decode cX9_know 51 = .ok (.iload_n 1, 1) := by decide +kernel
theorem dX9_know_52 : decode cX9_know 52 = .ok (.sipush 208, 3) := by decide +kernel
theorem dX9_know_55 : decode cX9_know 55 = .ok (.if_icmp .ge 30, 3) := by decide +kernel
theorem dX9_know_58 : decode cX9_know 58 = .ok (.aload_n 0, 1) := by decide +kernel
theorem dX9_know_59 : decode cX9_know 59 = .ok (.getfield 25, 3) := by decide +kernel
theorem dX9_know_62 : decode cX9_know 62 = .ok (.sipush 208, 3) := by decide +kernel
theorem dX9_know_65 : decode cX9_know 65 = .ok (.aload_n 0, 1) := by decide +kernel
theorem dX9_know_66 : decode cX9_know 66 = .ok (.getfield 59, 3) := by decide +kernel
theorem dX9_know_69 : decode cX9_know 69 = .ok (.imul, 1) := by decide +kernel
theorem dX9_know_70 : decode cX9_know 70 = .ok (.iload_n 1, 1) := by decide +kernel
theorem dX9_know_71 : decode cX9_know 71 = .ok (.iadd, 1) := by decide +kernel
theorem dX9_know_72 : decode cX9_know 72 = .ok (.aload_n 0, 1) := by decide +kernel
theorem dX9_know_73 : decode cX9_know 73 = .ok (.getfield 22, 3) := by decide +kernel
theorem dX9_know_76 : decode cX9_know 76 = .ok (.iload_n 1, 1) := by decide +kernel
theorem dX9_know_77 : decode cX9_know 77 = .ok (.iaload, 1) := by decide +kernel
theorem dX9_know_78 : decode cX9_know 78 = .ok (.iastore, 1) := by decide +kernel
theorem dX9_know_79 : decode cX9_know 79 = .ok (.iinc 1 1, 3) := by decide +kernel
theorem dX9_know_82 : decode cX9_know 82 = .ok (.goto (-31), 3) := by decide +kernel
theorem dX9_know_85 : decode cX9_know 85 = .ok (.aload_n 0, 1) := by decide +kernel
theorem dX9_know_86 : decode cX9_know 86 = .ok (.dup, 1) := by decide +kernel
theorem dX9_know_87 : decode cX9_know 87 = .ok (.getfield 59, 3) := by decide +kernel
theorem dX9_know_90 : decode cX9_know 90 = .ok (.iconst 1, 1) := by decide +kernel
theorem dX9_know_91 : decode cX9_know 91 = .ok (.iadd, 1) := by decide +kernel
theorem dX9_know_92 : decode cX9_know 92 = .ok (.putfield 59, 3) := by decide +kernel
theorem dX9_know_95 : decode cX9_know 95 = .ok (.return_, 1) := by decide +kernel
theorem dX9_bowPlace_0 : decode cX9_bowPlace 0 = .ok (.iload_n 0, 1) := by decide +kernel
theorem dX9_bowPlace_1 : decode cX9_bowPlace 1 = .ok (.ifCond .ne 7, 3) := by decide +kernel
theorem dX9_bowPlace_4 : decode cX9_bowPlace 4 = .ok (.iload_n 1, 1) := by decide +kernel
theorem dX9_bowPlace_5 : decode cX9_bowPlace 5 = .ok (.goto 35, 3) := by decide +kernel
theorem dX9_bowPlace_8 : decode cX9_bowPlace 8 = .ok (.iload_n 0, 1) := by decide +kernel
theorem dX9_bowPlace_9 : decode cX9_bowPlace 9 = .ok (.iconst 1, 1) := by decide +kernel
theorem dX9_bowPlace_10 : decode cX9_bowPlace 10 = .ok (.if_icmp .ne 13, 3) := by decide +kernel
theorem dX9_bowPlace_13 : decode cX9_bowPlace 13 = .ok (.bipush 12, 2) := by decide +kernel
theorem dX9_bowPlace_15 : decode cX9_bowPlace 15 = .ok (.iload_n 1, 1) := by decide +kernel
theorem dX9_bowPlace_16 : decode cX9_bowPlace 16 = .ok (.imul, 1) := by decide +kernel
theorem dX9_bowPlace_17 : decode cX9_bowPlace 17 = .ok (.bipush 11, 2) := by decide +kernel
theorem dX9_bowPlace_19 : decode cX9_bowPlace 19 = .ok (.iadd, 1) := by decide +kernel
theorem dX9_bowPlace_20 : decode cX9_bowPlace 20 = .ok (.goto 20, 3) := by decide +kernel
theorem dX9_bowPlace_23 : decode cX9_bowPlace 23 = .ok (.iload_n 0, 1) := by decide +kernel
theorem dX9_bowPlace_24 : decode cX9_bowPlace 24 = .ok (.iconst 2, 1) := by decide +kernel
theorem dX9_bowPlace_25 : decode cX9_bowPlace 25 = .ok (.if_icmp .ne 11, 3) := by decide +kernel
theorem dX9_bowPlace_28 : decode cX9_bowPlace 28 = .ok (.sipush 132, 3) := by decide +kernel
theorem dX9_bowPlace_31 : decode cX9_bowPlace 31 = .ok (.iload_n 1, 1) := by decide +kernel
theorem dX9_bowPlace_32 : decode cX9_bowPlace 32 = .ok (.iadd, 1) := by decide +kernel
theorem dX9_bowPlace_33 : decode cX9_bowPlace 33 = .ok (.goto 7, 3) := by decide +kernel
theorem dX9_bowPlace_36 : decode cX9_bowPlace 36 = .ok (.bipush 12, 2) := by decide +kernel
theorem dX9_bowPlace_38 : decode cX9_bowPlace 38 = .ok (.iload_n 1, 1) := by decide +kernel
theorem dX9_bowPlace_39 : decode cX9_bowPlace 39 = .ok (.imul, 1) := by decide +kernel
theorem dX9_bowPlace_40 : decode cX9_bowPlace 40 = .ok (.ireturn, 1) := by decide +kernel
set_option maxRecDepth 20000 in
theorem ggX9_isHeld_X9_swingAt : GoodIn wsX9_isHeld wsX9_swingAt := goodIn_r _ [6, 7, 8, 9, 10, 11, 12, 13, 14, 15, 16, 17, 18, 19, 20, 21, 22, 23] (by decide +kernel) (by decide +kernel)
set_option maxRecDepth 20000 in
theorem gX9_isHeld_X9_swingAt : GoodIn wsX9_isHeld (wsV RX9 63 RX9 yX9_swingAt wsX9_swingAt) := goodIn_app (goodIn_of _ (by decide +kernel)) ggX9_isHeld_X9_swingAt
theorem dX9_isHeld_0 : decode cX9_isHeld 0 = .ok (.iconst 0, 1) := by decide +kernel
theorem dX9_isHeld_1 : decode cX9_isHeld 1 = .ok (.istore_n 2, 1) := by decide +kernel
theorem dX9_isHeld_2 : decode cX9_isHeld 2 = .ok (.iconst 0, 1) := by decide +kernel
theorem dX9_isHeld_3 : decode cX9_isHeld 3 = .ok (.istore_n 3, 1) := by decide +kernel
theorem dX9_isHeld_4 : decode cX9_isHeld 4 = .ok (.iload_n 3, 1) := by decide +kernel
theorem dX9_isHeld_5 : decode cX9_isHeld 5 = .ok (.aload_n 0, 1) := by decide +kernel
theorem dX9_isHeld_6 : decode cX9_isHeld 6 = .ok (.getfield 22, 3) := by decide +kernel
theorem dX9_isHeld_9 : decode cX9_isHeld 9 = .ok (.sipush 154, 3) := by decide +kernel
theorem dX9_isHeld_12 : decode cX9_isHeld 12 = .ok (.iaload, 1) := by decide +kernel
theorem dX9_isHeld_13 : decode cX9_isHeld 13 = .ok (.if_icmp .ge 45, 3) := by decide +kernel
theorem dX9_isHeld_16 : decode cX9_isHeld 16 = .ok (.iload_n 2, 1) := by decide +kernel
theorem dX9_isHeld_17 : decode cX9_isHeld 17 = .ok (.ifCond .ne 29, 3) := by decide +kernel
theorem dX9_isHeld_20 : decode cX9_isHeld 20 = .ok (.aload_n 0, 1) := by decide +kernel
theorem dX9_isHeld_21 : decode cX9_isHeld 21 = .ok (.iload_n 1, 1) := by decide +kernel
theorem dX9_isHeld_22 : decode cX9_isHeld 22 = .ok (.aload_n 0, 1) := by decide +kernel
theorem dX9_isHeld_23 : decode cX9_isHeld 23 = .ok (.getfield 22, 3) := by decide +kernel
theorem dX9_isHeld_26 : decode cX9_isHeld 26 = .ok (.sipush 155, 3) := by decide +kernel
theorem dX9_isHeld_29 : decode cX9_isHeld 29 = .ok (.iload_n 3, 1) := by decide +kernel
theorem dX9_isHeld_30 : decode cX9_isHeld 30 = .ok (.iadd, 1) := by decide +kernel
theorem dX9_isHeld_31 : decode cX9_isHeld 31 = .ok (.iaload, 1) := by decide +kernel
theorem dX9_isHeld_32 : decode cX9_isHeld 32 = .ok (.invokevirtual 63, 3) := by decide +kernel
theorem dX9_isHeld_35 : decode cX9_isHeld 35 = .ok (.aload_n 0, 1) := by decide +kernel
theorem dX9_isHeld_36 : decode cX9_isHeld 36 = .ok (.getfield 22, 3) := by decide +kernel
theorem dX9_isHeld_39 : decode cX9_isHeld 39 = .ok (.sipush 144, 3) := by decide +kernel
theorem dX9_isHeld_42 : decode cX9_isHeld 42 = .ok (.iaload, 1) := by decide +kernel
theorem dX9_isHeld_43 : decode cX9_isHeld 43 = .ok (.if_icmp .le 7, 3) := by decide +kernel
theorem dX9_isHeld_46 : decode cX9_isHeld 46 = .ok (.iconst 1, 1) := by decide +kernel
theorem dX9_isHeld_47 : decode cX9_isHeld 47 = .ok (.goto 4, 3) := by decide +kernel
theorem dX9_isHeld_50 : decode cX9_isHeld 50 = .ok (.iconst 0, 1) := by decide +kernel
theorem dX9_isHeld_51 : decode cX9_isHeld 51 = .ok (.istore_n 2, 1) := by decide +kernel
theorem dX9_isHeld_52 : decode cX9_isHeld 52 = .ok (.iinc 3 1, 3) := by decide +kernel
theorem dX9_isHeld_55 : decode cX9_isHeld 55 = .ok (.goto (-51), 3) := by decide +kernel
theorem dX9_isHeld_58 : decode cX9_isHeld 58 = .ok (.iload_n 2, 1) := by decide +kernel
theorem dX9_isHeld_59 : decode cX9_isHeld 59 = .ok (.ireturn, 1) := by decide +kernel
set_option maxRecDepth 20000 in
theorem ggX9_canSound_X9_isHeld : GoodIn wsX9_canSound wsX9_isHeld := goodIn_r _ [6, 1, 7, 8, 9, 5, 10, 11, 12, 13, 14, 15, 16, 17, 18, 19, 20, 21, 22, 23, 24, 25, 26, 27] (by decide +kernel) (by decide +kernel)
set_option maxRecDepth 20000 in
theorem gX9_canSound_X9_isHeld : GoodIn wsX9_canSound (wsV RX9 66 RX9 yX9_isHeld wsX9_isHeld) := goodIn_app (goodIn_of _ (by decide +kernel)) ggX9_canSound_X9_isHeld
set_option maxRecDepth 20000 in
theorem ggX9_canSound_X9_swingAt : GoodIn wsX9_canSound wsX9_swingAt := goodIn_r _ [10, 11, 12, 13, 14, 15, 16, 17, 18, 19, 20, 21, 22, 23, 24, 25, 26, 27] (by decide +kernel) (by decide +kernel)
set_option maxRecDepth 20000 in
theorem gX9_canSound_X9_swingAt : GoodIn wsX9_canSound (wsV RX9 63 RX9 yX9_swingAt wsX9_swingAt) := goodIn_app (goodIn_of _ (by decide +kernel)) ggX9_canSound_X9_swingAt
theorem dX9_canSound_0 : decode cX9_canSound 0 = .ok (.aload_n 0, 1) := by decide +kernel
theorem dX9_canSound_1 : decode cX9_canSound 1 = .ok (.iload_n 1, 1) := by decide +kernel
theorem dX9_canSound_2 : decode cX9_canSound 2 = .ok (.invokevirtual 66, 3) := by decide +kernel
theorem dX9_canSound_5 : decode cX9_canSound 5 = .ok (.ifCond .ne 24, 3) := by decide +kernel
theorem dX9_canSound_8 : decode cX9_canSound 8 = .ok (.aload_n 0, 1) := by decide +kernel
theorem dX9_canSound_9 : decode cX9_canSound 9 = .ok (.iload_n 1, 1) := by decide +kernel
theorem dX9_canSound_10 : decode cX9_canSound 10 = .ok (.iload_n 2, 1) := by decide +kernel
theorem dX9_canSound_11 : decode cX9_canSound 11 = .ok (.invokevirtual 63, 3) := by decide +kernel
theorem dX9_canSound_14 : decode cX9_canSound 14 = .ok (.aload_n 0, 1) := by decide +kernel
theorem dX9_canSound_15 : decode cX9_canSound 15 = .ok (.getfield 22, 3) := by decide +kernel
theorem dX9_canSound_18 : decode cX9_canSound 18 = .ok (.sipush 145, 3) := by decide +kernel
theorem dX9_canSound_21 : decode cX9_canSound 21 = .ok (.iaload, 1) := by decide +kernel
theorem dX9_canSound_22 : decode cX9_canSound 22 = .ok (.if_icmp .lt 7, 3) := by decide +kernel
theorem dX9_canSound_25 : decode cX9_canSound 25 = .ok (.iconst 1, 1) := by decide +kernel
theorem dX9_canSound_26 : decode cX9_canSound 26 = .ok (.goto 4, 3) := by decide +kernel
theorem dX9_canSound_29 : decode cX9_canSound 29 = .ok (.iconst 0, 1) := by decide +kernel
theorem dX9_canSound_30 : decode cX9_canSound 30 = .ok (.ireturn, 1) := by decide +kernel
set_option maxRecDepth 20000 in
theorem ggX9_soundsAt_X9_canSound : GoodIn wsX9_soundsAt wsX9_canSound := goodIn_r _ [5, 6, 7, 8, 9, 4, 10, 11, 12, 13, 14, 15, 16, 17, 18, 19, 20, 21, 22, 23, 24, 25, 26, 27, 28, 29, 30, 31] (by decide +kernel) (by decide +kernel)
set_option maxRecDepth 20000 in
theorem gX9_soundsAt_X9_canSound : GoodIn wsX9_soundsAt (wsV RX9 70 RX9 yX9_canSound wsX9_canSound) := goodIn_app (goodIn_of _ (by decide +kernel)) ggX9_soundsAt_X9_canSound
theorem dX9_soundsAt_0 : decode cX9_soundsAt 0 = .ok (.iconst 0, 1) := by decide +kernel
theorem dX9_soundsAt_1 : decode cX9_soundsAt 1 = .ok (.istore_n 2, 1) := by decide +kernel
theorem dX9_soundsAt_2 : decode cX9_soundsAt 2 = .ok (.iload_n 2, 1) := by decide +kernel
theorem dX9_soundsAt_3 : decode cX9_soundsAt 3 = .ok (.bipush 48, 2) := by decide +kernel
theorem dX9_soundsAt_5 : decode cX9_soundsAt 5 = .ok (.if_icmp .ge 20, 3) := by decide +kernel
theorem dX9_soundsAt_8 : decode cX9_soundsAt 8 = .ok (.aload_n 0, 1) := by decide +kernel
theorem dX9_soundsAt_9 : decode cX9_soundsAt 9 = .ok (.iload_n 2, 1) := by decide +kernel
theorem dX9_soundsAt_10 : decode cX9_soundsAt 10 = .ok (.iload_n 1, 1) := by decide +kernel
theorem dX9_soundsAt_11 : decode cX9_soundsAt 11 = .ok (.invokevirtual 70, 3) := by decide +kernel
theorem dX9_soundsAt_14 : decode cX9_soundsAt 14 = .ok (.ifCond .eq 5, 3) := by decide +kernel
theorem dX9_soundsAt_17 : decode cX9_soundsAt 17 = .ok (.iload_n 2, 1) := by decide +kernel
theorem dX9_soundsAt_18 : decode cX9_soundsAt 18 = .ok (.ireturn, 1) := by decide +kernel
theorem dX9_soundsAt_19 : decode cX9_soundsAt 19 = .ok (.iinc 2 1, 3) := by decide +kernel
theorem dX9_soundsAt_22 : decode cX9_soundsAt 22 = .ok (.goto (-20), 3) := by decide +kernel
theorem dX9_soundsAt_25 : decode cX9_soundsAt 25 = .ok (.bipush (-5), 2) := by decide +kernel
theorem dX9_soundsAt_27 : decode cX9_soundsAt 27 = .ok (.ireturn, 1) := by decide +kernel
set_option maxRecDepth 20000 in
theorem ggX9_isPossible_X9_bowPlace : GoodIn wsX9_isPossible wsX9_bowPlace := goodIn_r _ [4] (by decide +kernel) (by decide +kernel)
set_option maxRecDepth 20000 in
theorem gX9_isPossible_X9_bowPlace : GoodIn wsX9_isPossible (va_wsS RX9 74 yX9_bowPlace wsX9_bowPlace) := goodIn_app (goodIn_of _ (by decide +kernel)) ggX9_isPossible_X9_bowPlace
set_option maxRecDepth 20000 in
theorem ggX9_isPossible_X9_soundsAt : GoodIn wsX9_isPossible wsX9_soundsAt := goodIn_r _ [8, 9, 10, 11, 3, 12, 13, 14, 15, 16, 17, 18, 19, 20, 21, 22, 23, 24, 25, 26, 27, 28, 29, 30, 31, 32, 33, 34, 35, 36, 37, 38] (by decide +kernel) (by decide +kernel)
set_option maxRecDepth 20000 in
theorem gX9_isPossible_X9_soundsAt : GoodIn wsX9_isPossible (wsV RX9 77 RX9 yX9_soundsAt wsX9_soundsAt) := goodIn_app (goodIn_of _ (by decide +kernel)) ggX9_isPossible_X9_soundsAt
theorem dX9_isPossible_0 : decode cX9_isPossible 0 = .ok (.iconst 0, 1) := by decide +kernel
theorem dX9_isPossible_1 : decode cX9_isPossible 1 = .ok (.istore_n 2, 1) := by decide +kernel
theorem dX9_isPossible_2 : decode cX9_isPossible 2 = .ok (.iconst 0, 1) := by decide +kernel
theorem dX9_isPossible_3 : decode cX9_isPossible 3 = .ok (.istore_n 3, 1) := by decide +kernel
theorem dX9_isPossible_4 : decode cX9_isPossible 4 = .ok (.iload_n 3, 1) := by decide +kernel
theorem dX9_isPossible_5 : decode cX9_isPossible 5 = .ok (.bipush 48, 2) := by decide +kernel
theorem dX9_isPossible_7 : decode cX9_isPossible 7 = .ok (.if_icmp .ge 38, 3) := by decide +kernel
theorem dX9_isPossible_10 : decode cX9_isPossible 10 = .ok (.iload_n 2, 1) := by decide +kernel
theorem dX9_isPossible_11 : decode cX9_isPossible 11 = .ok (.ifCond .ne 34, 3) := by decide +kernel
theorem dX9_isPossible_14 : decode cX9_isPossible 14 = .ok (.aload_n 0, 1) := by decide +kernel
theorem dX9_isPossible_15 : decode cX9_isPossible 15 = .ok (.iload_n 3, 1) := by decide +kernel
theorem dX9_isPossible_16 : decode cX9_isPossible 16 = .ok (.bipush 12, 2) := by decide +kernel
theorem dX9_isPossible_18 : decode cX9_isPossible 18 = .ok (.idiv, 1) := by decide +kernel
theorem dX9_isPossible_19 : decode cX9_isPossible 19 = .ok (.iload_n 3, 1) := by decide +kernel
theorem dX9_isPossible_20 : decode cX9_isPossible 20 = .ok (.bipush 12, 2) := by decide +kernel
theorem dX9_isPossible_22 : decode cX9_isPossible 22 = .ok (.irem, 1) := by decide +kernel
theorem dX9_isPossible_23 : decode cX9_isPossible 23 = .ok (.invokestatic 74, 3) := by decide +kernel
theorem dX9_isPossible_26 : decode cX9_isPossible 26 = .ok (.invokevirtual 77, 3) := by decide +kernel
theorem dX9_isPossible_29 : decode cX9_isPossible 29 = .ok (.iload_n 1, 1) := by decide +kernel
theorem dX9_isPossible_30 : decode cX9_isPossible 30 = .ok (.if_icmp .ne 7, 3) := by decide +kernel
theorem dX9_isPossible_33 : decode cX9_isPossible 33 = .ok (.iconst 1, 1) := by decide +kernel
theorem dX9_isPossible_34 : decode cX9_isPossible 34 = .ok (.goto 4, 3) := by decide +kernel
theorem dX9_isPossible_37 : decode cX9_isPossible 37 = .ok (.iconst 0, 1) := by decide +kernel
theorem dX9_isPossible_38 : decode cX9_isPossible 38 = .ok (.istore_n 2, 1) := by decide +kernel
theorem dX9_isPossible_39 : decode cX9_isPossible 39 = .ok (.iinc 3 1, 3) := by decide +kernel
theorem dX9_isPossible_42 : decode cX9_isPossible 42 = .ok (.goto (-38), 3) := by decide +kernel
theorem dX9_isPossible_45 : decode cX9_isPossible 45 = .ok (.iload_n 2, 1) := by decide +kernel
theorem dX9_isPossible_46 : decode cX9_isPossible 46 = .ok (.ireturn, 1) := by decide +kernel
theorem dX9_isEdge_0 : decode cX9_isEdge 0 = .ok (.iload_n 0, 1) := by decide +kernel
theorem dX9_isEdge_1 : decode cX9_isEdge 1 = .ok (.bipush 12, 2) := by decide +kernel
theorem dX9_isEdge_3 : decode cX9_isEdge 3 = .ok (.irem, 1) := by decide +kernel
theorem dX9_isEdge_4 : decode cX9_isEdge 4 = .ok (.istore_n 1, 1) := by decide +kernel
theorem dX9_isEdge_5 : decode cX9_isEdge 5 = .ok (.iload_n 0, 1) := by decide +kernel
theorem dX9_isEdge_6 : decode cX9_isEdge 6 = .ok (.bipush 12, 2) := by decide +kernel
theorem dX9_isEdge_8 : decode cX9_isEdge 8 = .ok (.idiv, 1) := by decide +kernel
theorem dX9_isEdge_9 : decode cX9_isEdge 9 = .ok (.istore_n 2, 1) := by decide +kernel
theorem dX9_isEdge_10 : decode cX9_isEdge 10 = .ok (.iload_n 1, 1) := by decide +kernel
theorem dX9_isEdge_11 : decode cX9_isEdge 11 = .ok (.ifCond .eq 19, 3) := by decide +kernel
theorem dX9_isEdge_14 : decode cX9_isEdge 14 = .ok (.iload_n 1, 1) := by decide +kernel
theorem dX9_isEdge_15 : decode cX9_isEdge 15 = .ok (.bipush 11, 2) := by decide +kernel
theorem dX9_isEdge_17 : decode cX9_isEdge 17 = .ok (.if_icmp .eq 13, 3) := by decide +kernel
theorem dX9_isEdge_20 : decode cX9_isEdge 20 = .ok (.iload_n 2, 1) := by decide +kernel
theorem dX9_isEdge_21 : decode cX9_isEdge 21 = .ok (.ifCond .eq 9, 3) := by decide +kernel
theorem dX9_isEdge_24 : decode cX9_isEdge 24 = .ok (.iload_n 2, 1) := by decide +kernel
theorem dX9_isEdge_25 : decode cX9_isEdge 25 = .ok (.bipush 11, 2) := by decide +kernel
theorem dX9_isEdge_27 : decode cX9_isEdge 27 = .ok (.if_icmp .ne 7, 3) := by decide +kernel
theorem dX9_isEdge_30 : decode cX9_isEdge 30 = .ok (.iconst 1, 1) := by decide +kernel
theorem dX9_isEdge_31 : decode cX9_isEdge 31 = .ok (.goto 4, 3) := by decide +kernel
theorem dX9_isEdge_34 : decode cX9_isEdge 34 = .ok (.iconst 0, 1) := by decide +kernel
theorem dX9_isEdge_35 : decode cX9_isEdge 35 = .ok (.ireturn, 1) := by decide +kernel
set_option maxRecDepth 20000 in
theorem ggX9_calmest_X9_isOn : GoodIn wsX9_calmest wsX9_isOn := goodIn_r _ [4, 5, 6, 3, 7] (by decide +kernel) (by decide +kernel)
set_option maxRecDepth 20000 in
theorem gX9_calmest_X9_isOn : GoodIn wsX9_calmest (va_wsS RX9 80 yX9_isOn wsX9_isOn) := goodIn_app (goodIn_of _ (by decide +kernel)) ggX9_calmest_X9_isOn
set_option maxRecDepth 20000 in
theorem ggX9_calmest_X9_swingAt : GoodIn wsX9_calmest wsX9_swingAt := goodIn_r _ [11, 12, 13, 14, 15, 16, 17, 18, 19, 20, 21, 22, 23, 24, 25, 26, 27, 28] (by decide +kernel) (by decide +kernel)
set_option maxRecDepth 20000 in
theorem gX9_calmest_X9_swingAt : GoodIn wsX9_calmest (wsV RX9 63 RX9 yX9_swingAt wsX9_swingAt) := goodIn_app (goodIn_of _ (by decide +kernel)) ggX9_calmest_X9_swingAt
theorem dX9_calmest_0 : decode cX9_calmest 0 = .ok (.bipush (-5), 2) := by decide +kernel
theorem dX9_calmest_2 : decode cX9_calmest 2 = .ok (.istore_n 3, 1) := by decide +kernel
theorem dX9_calmest_3 : decode cX9_calmest 3 = .ok (.iconst 0, 1) := by decide +kernel
theorem dX9_calmest_4 : decode cX9_calmest 4 = .ok (.istore 4, 2) := by decide +kernel
theorem dX9_calmest_6 : decode cX9_calmest 6 = .ok (.iload 4, 2) := by decide +kernel
theorem dX9_calmest_8 : decode cX9_calmest 8 = .ok (.iconst 4, 1) := by decide +kernel
theorem dX9_calmest_9 : decode cX9_calmest 9 = .ok (.if_icmp .ge 125, 3) := by decide +kernel
theorem dX9_calmest_12 : decode cX9_calmest 12 = .ok (.iload_n 2, 1) := by decide +kernel
theorem dX9_calmest_13 : decode cX9_calmest 13 = .ok (.bipush 12, 2) := by decide +kernel
theorem dX9_calmest_15 : decode cX9_calmest 15 = .ok (.irem, 1) := by decide +kernel
theorem dX9_calmest_16 : decode cX9_calmest 16 = .ok (.iload 4, 2) := by decide +kernel
theorem dX9_calmest_18 : decode cX9_calmest 18 = .ok (.iconst 1, 1) := by decide +kernel
theorem dX9_calmest_19 : decode cX9_calmest 19 = .ok (.if_icmp .ne 7, 3) := by decide +kernel
theorem dX9_calmest_22 : decode cX9_calmest 22 = .ok (.iconst (-1), 1) := by decide +kernel
theorem dX9_calmest_23 : decode cX9_calmest 23 = .ok (.goto 14, 3) := by decide +kernel
theorem dX9_calmest_26 : decode cX9_calmest 26 = .ok (.iload 4, 2) := by decide +kernel
theorem dX9_calmest_28 : decode cX9_calmest 28 = .ok (.iconst 2, 1) := by decide +kernel
theorem dX9_calmest_29 : decode cX9_calmest 29 = .ok (.if_icmp .ne 7, 3) := by decide +kernel
theorem dX9_calmest_32 : decode cX9_calmest 32 = .ok (.iconst 1, 1) := by decide +kernel
theorem dX9_calmest_33 : decode cX9_calmest 33 = .ok (.goto 4, 3) := by decide +kernel
theorem dX9_calmest_36 : decode cX9_calmest 36 = .ok (.iconst 0, 1) := by decide +kernel
theorem dX9_calmest_37 : decode cX9_calmest 37 = .ok (.iadd, 1) := by decide +kernel
theorem dX9_calmest_38 : decode cX9_calmest 38 = .ok (.istore 5, 2) := by decide +kernel
theorem dX9_calmest_40 : decode cX9_calmest 40 = .ok (.iload_n 2, 1) := by decide +kernel
theorem dX9_calmest_41 : decode cX9_calmest 41 = .ok (.bipush 12, 2) := by decide +kernel
theorem dX9_calmest_43 : decode cX9_calmest 43 = .ok (.idiv, 1) := by decide +kernel
theorem dX9_calmest_44 : decode cX9_calmest 44 = .ok (.iload 4, 2) := by decide +kernel
theorem dX9_calmest_46 : decode cX9_calmest 46 = .ok (.ifCond .ne 7, 3) := by decide +kernel
theorem dX9_calmest_49 : decode cX9_calmest 49 = .ok (.iconst (-1), 1) := by decide +kernel
theorem dX9_calmest_50 : decode cX9_calmest 50 = .ok (.goto 14, 3) := by decide +kernel
theorem dX9_calmest_53 : decode cX9_calmest 53 = .ok (.iload 4, 2) := by decide +kernel
theorem dX9_calmest_55 : decode cX9_calmest 55 = .ok (.iconst 3, 1) := by decide +kernel
theorem dX9_calmest_56 : decode cX9_calmest 56 = .ok (.if_icmp .ne 7, 3) := by decide +kernel
theorem dX9_calmest_59 : decode cX9_calmest 59 = .ok (.iconst 1, 1) := by decide +kernel
theorem dX9_calmest_60 : decode cX9_calmest 60 = .ok (.goto 4, 3) := by decide +kernel
theorem dX9_calmest_63 : decode cX9_calmest 63 = .ok (.iconst 0, 1) := by decide +kernel
theorem dX9_calmest_64 : decode cX9_calmest 64 = .ok (.iadd, 1) := by decide +kernel
theorem dX9_calmest_65 : decode cX9_calmest 65 = .ok (.istore 6, 2) := by decide +kernel
theorem dX9_calmest_67 : decode cX9_calmest 67 = .ok (.bipush 12, 2) := by decide +kernel
theorem dX9_calmest_69 : decode cX9_calmest 69 = .ok (.iload 6, 2) := by decide +kernel
theorem dX9_calmest_71 : decode cX9_calmest 71 = .ok (.imul, 1) := by decide +kernel
theorem dX9_calmest_72 : decode cX9_calmest 72 = .ok (.iload 5, 2) := by decide +kernel
theorem dX9_calmest_74 : decode cX9_calmest 74 = .ok (.iadd, 1) := by decide +kernel
theorem dX9_calmest_75 : decode cX9_calmest 75 = .ok (.istore 7, 2) := by decide +kernel
theorem dX9_calmest_77 : decode cX9_calmest 77 = .ok (.iload 5, 2) := by decide +kernel
theorem dX9_calmest_79 : decode cX9_calmest 79 = .ok (.iload 6, 2) := by decide +kernel
theorem dX9_calmest_81 : decode cX9_calmest 81 = .ok (.invokestatic 80, 3) := by decide +kernel
theorem dX9_calmest_84 : decode cX9_calmest 84 = .ok (.ifCond .eq 29, 3) := by decide +kernel
theorem dX9_calmest_87 : decode cX9_calmest 87 = .ok (.iload_n 3, 1) := by decide +kernel
theorem dX9_calmest_88 : decode cX9_calmest 88 = .ok (.bipush (-5), 2) := by decide +kernel
theorem dX9_calmest_90 : decode cX9_calmest 90 = .ok (.if_icmp .eq 19, 3) := by decide +kernel
theorem dX9_calmest_93 : decode cX9_calmest 93 = .ok (.aload_n 0, 1) := by decide +kernel
theorem dX9_calmest_94 : decode cX9_calmest 94 = .ok (.iload_n 1, 1) := by decide +kernel
theorem dX9_calmest_95 : decode cX9_calmest 95 = .ok (.iload 7, 2) := by decide +kernel
theorem dX9_calmest_97 : decode cX9_calmest 97 = .ok (.invokevirtual 63, 3) := by decide +kernel
theorem dX9_calmest_100 : decode cX9_calmest 100 = .ok (.aload_n 0, 1) := by decide +kernel
theorem dX9_calmest_101 : decode cX9_calmest 101 = .ok (.iload_n 1, 1) := by decide +kernel
theorem dX9_calmest_102 : decode cX9_calmest 102 = .ok (.iload_n 3, 1) := by decide +kernel
theorem dX9_calmest_103 : decode cX9_calmest 103 = .ok (.invokevirtual 63, 3) := by decide +kernel
theorem dX9_calmest_106 : decode cX9_calmest 106 = .ok (.if_icmp .ge 7, 3) := by decide +kernel
theorem dX9_calmest_109 : decode cX9_calmest 109 = .ok (.iconst 1, 1) := by decide +kernel
theorem dX9_calmest_110 : decode cX9_calmest 110 = .ok (.goto 4, 3) := by decide +kernel
theorem dX9_calmest_113 : decode cX9_calmest 113 = .ok (.iconst 0, 1) := by decide +kernel
theorem dX9_calmest_114 : decode cX9_calmest 114 = .ok (.istore 8, 2) := by decide +kernel
theorem dX9_calmest_116 : decode cX9_calmest 116 = .ok (.iload 8, 2) := by decide +kernel
theorem dX9_calmest_118 : decode cX9_calmest 118 = .ok (.ifCond .eq 8, 3) := by decide +kernel
theorem dX9_calmest_121 : decode cX9_calmest 121 = .ok (.iload 7, 2) := by decide +kernel
theorem dX9_calmest_123 : decode cX9_calmest 123 = .ok (.goto 4, 3) := by decide +kernel
theorem dX9_calmest_126 : decode cX9_calmest 126 = .ok (.iload_n 3, 1) := by decide +kernel
theorem dX9_calmest_127 : decode cX9_calmest 127 = .ok (.istore_n 3, 1) := by decide +kernel
theorem dX9_calmest_128 : decode cX9_calmest 128 = .ok (.iinc 4 1, 3) := by decide +kernel
theorem dX9_calmest_131 : decode cX9_calmest 131 = .ok (.goto (-125), 3) := by decide +kernel
theorem dX9_calmest_134 : decode cX9_calmest 134 = .ok (.iload_n 3, 1) := by decide +kernel
theorem dX9_calmest_135 : decode cX9_calmest 135 = .ok (.ireturn, 1) := by decide +kernel
set_option maxRecDepth 20000 in
theorem ggX9_stroke_X9_swingAt : GoodIn wsX9_stroke wsX9_swingAt := goodIn_r _ [7, 8, 22, 23, 24, 25, 26, 27, 28, 29, 30, 31, 32, 33, 34, 35, 36, 37] (by decide +kernel) (by decide +kernel)
set_option maxRecDepth 20000 in
theorem gX9_stroke_X9_swingAt : GoodIn wsX9_stroke (wsV RX9 63 RX9 yX9_swingAt wsX9_swingAt) := goodIn_app (goodIn_of _ (by decide +kernel)) ggX9_stroke_X9_swingAt
set_option maxRecDepth 20000 in
theorem ggX9_stroke_X9_isEdge : GoodIn wsX9_stroke wsX9_isEdge := goodIn_r _ [11] (by decide +kernel) (by decide +kernel)
set_option maxRecDepth 20000 in
theorem gX9_stroke_X9_isEdge : GoodIn wsX9_stroke (va_wsS RX9 83 yX9_isEdge wsX9_isEdge) := goodIn_app (goodIn_of _ (by decide +kernel)) ggX9_stroke_X9_isEdge
set_option maxRecDepth 20000 in
theorem ggX9_stroke_X9_calmest : GoodIn wsX9_stroke wsX9_calmest := goodIn_r _ [15, 16, 17, 6, 18, 19, 20, 21, 3, 4, 5, 7, 8, 22, 23, 24, 25, 26, 27, 28, 29, 30, 31, 32, 33, 34, 35, 36, 37] (by decide +kernel) (by decide +kernel)
set_option maxRecDepth 20000 in
theorem gX9_stroke_X9_calmest : GoodIn wsX9_stroke (wsV RX9 86 RX9 yX9_calmest wsX9_calmest) := goodIn_app (goodIn_of _ (by decide +kernel)) ggX9_stroke_X9_calmest
theorem dX9_stroke_0 : decode cX9_stroke 0 = .ok (.iconst 0, 1) := by decide +kernel
theorem dX9_stroke_1 : decode cX9_stroke 1 = .ok (.istore_n 2, 1) := by decide +kernel
theorem dX9_stroke_2 : decode cX9_stroke 2 = .ok (.iload_n 2, 1) := by decide +kernel
theorem dX9_stroke_3 : decode cX9_stroke 3 = .ok (.sipush 144, 3) := by decide +kernel
theorem dX9_stroke_6 : decode cX9_stroke 6 = .ok (.if_icmp .ge 16, 3) := by decide +kernel
theorem dX9_stroke_9 : decode cX9_stroke 9 = .ok (.aload_n 0, 1) := by decide +kernel
theorem dX9_stroke_10 : decode cX9_stroke 10 = .ok (.getfield 34, 3) := by decide +kernel
theorem dX9_stroke_13 : decode cX9_stroke 13 = .ok (.iload_n 2, 1) := by decide +kernel
theorem dX9_stroke_14 : decode cX9_stroke 14 = .ok (.iconst 0, 1) := by decide +kernel
theorem dX9_stroke_15 : decode cX9_stroke 15 = .ok (.iastore, 1) := by decide +kernel
theorem dX9_stroke_16 : decode cX9_stroke 16 = .ok (.iinc 2 1, 3) := by decide +kernel
theorem dX9_stroke_19 : decode cX9_stroke 19 = .ok (.goto (-17), 3) := by decide +kernel
theorem dX9_stroke_22 : decode cX9_stroke 22 = .ok (.iconst 0, 1) := by decide +kernel
theorem dX9_stroke_23 : decode cX9_stroke 23 = .ok (.istore_n 2, 1) := by decide +kernel
theorem dX9_stroke_24 : decode cX9_stroke 24 = .ok (.iload_n 2, 1) := by decide +kernel
theorem dX9_stroke_25 : decode cX9_stroke 25 = .ok (.sipush 144, 3) := by decide +kernel
theorem dX9_stroke_28 : decode cX9_stroke 28 = .ok (.if_icmp .ge 137, 3) := by decide +kernel
theorem dX9_stroke_31 : decode cX9_stroke 31 = .ok (.aload_n 0, 1) := by decide +kernel
theorem dX9_stroke_32 : decode cX9_stroke 32 = .ok (.iload_n 1, 1) := by decide +kernel
theorem dX9_stroke_33 : decode cX9_stroke 33 = .ok (.iload_n 2, 1) := by decide +kernel
theorem dX9_stroke_34 : decode cX9_stroke 34 = .ok (.invokevirtual 63, 3) := by decide +kernel
theorem dX9_stroke_37 : decode cX9_stroke 37 = .ok (.istore_n 3, 1) := by decide +kernel
theorem dX9_stroke_38 : decode cX9_stroke 38 = .ok (.iload_n 3, 1) := by decide +kernel
theorem dX9_stroke_39 : decode cX9_stroke 39 = .ok (.aload_n 0, 1) := by decide +kernel
theorem dX9_stroke_40 : decode cX9_stroke 40 = .ok (.getfield 22, 3) := by decide +kernel
theorem dX9_stroke_43 : decode cX9_stroke 43 = .ok (.sipush 146, 3) := by decide +kernel
theorem dX9_stroke_46 : decode cX9_stroke 46 = .ok (.iaload, 1) := by decide +kernel
theorem dX9_stroke_47 : decode cX9_stroke 47 = .ok (.if_icmp .le 18, 3) := by decide +kernel
theorem dX9_stroke_50 : decode cX9_stroke 50 = .ok (.aload_n 0, 1) := by decide +kernel
theorem dX9_stroke_51 : decode cX9_stroke 51 = .ok (.getfield 22, 3) := by decide +kernel
theorem dX9_stroke_54 : decode cX9_stroke 54 = .ok (.iconst 0, 1) := by decide +kernel
theorem dX9_stroke_55 : decode cX9_stroke 55 = .ok (.iload_n 2, 1) := by decide +kernel
theorem dX9_stroke_56 : decode cX9_stroke 56 = .ok (.iadd, 1) := by decide +kernel
theorem dX9_stroke_57 : decode cX9_stroke 57 = .ok (.iaload, 1) := by decide +kernel
theorem dX9_stroke_58 : decode cX9_stroke 58 = .ok (.iconst 1, 1) := by decide +kernel
theorem dX9_stroke_59 : decode cX9_stroke 59 = .ok (.iadd, 1) := by decide +kernel
theorem dX9_stroke_60 : decode cX9_stroke 60 = .ok (.iconst 2, 1) := by decide +kernel
theorem dX9_stroke_61 : decode cX9_stroke 61 = .ok (.idiv, 1) := by decide +kernel
theorem dX9_stroke_62 : decode cX9_stroke 62 = .ok (.goto 4, 3) := by decide +kernel
theorem dX9_stroke_65 : decode cX9_stroke 65 = .ok (.iconst 0, 1) := by decide +kernel
theorem dX9_stroke_66 : decode cX9_stroke 66 = .ok (.istore 4, 2) := by decide +kernel
theorem dX9_stroke_68 : decode cX9_stroke 68 = .ok (.iload 4, 2) := by decide +kernel
theorem dX9_stroke_70 : decode cX9_stroke 70 = .ok (.ifCond .le 47, 3) := by decide +kernel
theorem dX9_stroke_73 : decode cX9_stroke 73 = .ok (.iload_n 2, 1) := by decide +kernel
theorem dX9_stroke_74 : decode cX9_stroke 74 = .ok (.invokestatic 83, 3) := by decide +kernel
theorem dX9_stroke_77 : decode cX9_stroke 77 = .ok (.ifCond .eq 40, 3) := by decide +kernel
theorem dX9_stroke_80 : decode cX9_stroke 80 = .ok (.iload_n 3, 1) := by decide +kernel
theorem dX9_stroke_81 : decode cX9_stroke 81 = .ok (.aload_n 0, 1) := by decide +kernel
theorem dX9_stroke_82 : decode cX9_stroke 82 = .ok (.getfield 22, 3) := by decide +kernel
theorem dX9_stroke_85 : decode cX9_stroke 85 = .ok (.sipush 147, 3) := by decide +kernel
theorem dX9_stroke_88 : decode cX9_stroke 88 = .ok (.iaload, 1) := by decide +kernel
theorem dX9_stroke_89 : decode cX9_stroke 89 = .ok (.if_icmp .lt 28, 3) := by decide +kernel
theorem dX9_stroke_92 : decode cX9_stroke 92 = .ok (.aload_n 0, 1) := by decide +kernel
theorem dX9_stroke_93 : decode cX9_stroke 93 = .ok (.getfield 34, 3) := by decide +kernel
theorem dX9_stroke_96 : decode cX9_stroke 96 = .ok (.iload_n 2, 1) := by decide +kernel
theorem dX9_stroke_97 : decode cX9_stroke 97 = .ok (.dup2, 1) := by decide +kernel
theorem dX9_stroke_98 : decode cX9_stroke 98 = .ok (.iaload, 1) := by decide +kernel
theorem dX9_stroke_99 : decode cX9_stroke 99 = .ok (.iconst 1, 1) := by decide +kernel
theorem dX9_stroke_100 : decode cX9_stroke 100 = .ok (.isub, 1) := by decide +kernel
theorem dX9_stroke_101 : decode cX9_stroke 101 = .ok (.iastore, 1) := by decide +kernel
theorem dX9_stroke_102 : decode cX9_stroke 102 = .ok (.aload_n 0, 1) := by decide +kernel
theorem dX9_stroke_103 : decode cX9_stroke 103 = .ok (.getfield 22, 3) := by decide +kernel
theorem dX9_stroke_106 : decode cX9_stroke 106 = .ok (.sipush 150, 3) := by decide +kernel
theorem dX9_stroke_109 : decode cX9_stroke 109 = .ok (.dup2, 1) := by decide +kernel
theorem dX9_stroke_110 : decode cX9_stroke 110 = .ok (.iaload, 1) := by decide +kernel
theorem dX9_stroke_111 : decode cX9_stroke 111 = .ok (.iconst 1, 1) := by decide +kernel
theorem dX9_stroke_112 : decode cX9_stroke 112 = .ok (.iadd, 1) := by decide +kernel
theorem dX9_stroke_113 : decode cX9_stroke 113 = .ok (.iastore, 1) := by decide +kernel
theorem dX9_stroke_114 : decode cX9_stroke 114 = .ok (.iinc 4 (-1), 3) := by decide +kernel
theorem dX9_stroke_117 : decode cX9_stroke 117 = .ok (.aload_n 0, 1) := by decide +kernel
theorem dX9_stroke_118 : decode cX9_stroke 118 = .ok (.iload_n 1, 1) := by decide +kernel
theorem dX9_stroke_119 : decode cX9_stroke 119 = .ok (.iload_n 2, 1) := by decide +kernel
theorem dX9_stroke_120 : decode cX9_stroke 120 = .ok (.invokevirtual 86, 3) := by decide +kernel
theorem dX9_stroke_123 : decode cX9_stroke 123 = .ok (.istore 5, 2) := by decide +kernel
theorem dX9_stroke_125 : decode cX9_stroke 125 = .ok (.aload_n 0, 1) := by decide +kernel
theorem dX9_stroke_126 : decode cX9_stroke 126 = .ok (.iload_n 1, 1) := by decide +kernel
theorem dX9_stroke_127 : decode cX9_stroke 127 = .ok (.iload 5, 2) := by decide +kernel
theorem dX9_stroke_129 : decode cX9_stroke 129 = .ok (.invokevirtual 63, 3) := by decide +kernel
theorem dX9_stroke_132 : decode cX9_stroke 132 = .ok (.iload_n 3, 1) := by decide +kernel
theorem dX9_stroke_133 : decode cX9_stroke 133 = .ok (.if_icmp .ge 26, 3) := by decide +kernel
theorem dX9_stroke_136 : decode cX9_stroke 136 = .ok (.aload_n 0, 1) := by decide +kernel
theorem dX9_stroke_137 : decode cX9_stroke 137 = .ok (.getfield 34, 3) := by decide +kernel
theorem dX9_stroke_140 : decode cX9_stroke 140 = .ok (.iload_n 2, 1) := by decide +kernel
theorem dX9_stroke_141 : decode cX9_stroke 141 = .ok (.dup2, 1) := by decide +kernel
theorem dX9_stroke_142 : decode cX9_stroke 142 = .ok (.iaload, 1) := by decide +kernel
theorem dX9_stroke_143 : decode cX9_stroke 143 = .ok (.iload 4, 2) := by decide +kernel
theorem dX9_stroke_145 : decode cX9_stroke 145 = .ok (.isub, 1) := by decide +kernel
theorem dX9_stroke_146 : decode cX9_stroke 146 = .ok (.iastore, 1) := by decide +kernel
theorem dX9_stroke_147 : decode cX9_stroke 147 = .ok (.aload_n 0, 1) := by decide +kernel
theorem dX9_stroke_148 : decode cX9_stroke 148 = .ok (.getfield 34, 3) := by decide +kernel
theorem dX9_stroke_151 : decode cX9_stroke 151 = .ok (.iload 5, 2) := by decide +kernel
theorem dX9_stroke_153 : decode cX9_stroke 153 = .ok (.dup2, 1) := by decide +kernel
theorem dX9_stroke_154 : decode cX9_stroke 154 = .ok (.iaload, 1) := by decide +kernel
theorem dX9_stroke_155 : decode cX9_stroke 155 = .ok (.iload 4, 2) := by decide +kernel
theorem dX9_stroke_157 : decode cX9_stroke 157 = .ok (.iadd, 1) := by decide +kernel
theorem dX9_stroke_158 : decode cX9_stroke 158 = .ok (.iastore, 1) := by decide +kernel
theorem dX9_stroke_159 : decode cX9_stroke 159 = .ok (.iinc 2 1, 3) := by decide +kernel
theorem dX9_stroke_162 : decode cX9_stroke 162 = .ok (.goto (-138), 3) := by decide +kernel
theorem dX9_stroke_165 : decode cX9_stroke 165 = .ok (.iconst 0, 1) := by decide +kernel
theorem dX9_stroke_166 : decode cX9_stroke 166 = .ok (.istore_n 2, 1) := by decide +kernel
theorem dX9_stroke_167 : decode cX9_stroke 167 = .ok (.iload_n 2, 1) := by decide +kernel
theorem dX9_stroke_168 : decode cX9_stroke 168 = .ok (.sipush 144, 3) := by decide +kernel
theorem dX9_stroke_171 : decode cX9_stroke 171 = .ok (.if_icmp .ge 26, 3) := by decide +kernel
theorem dX9_stroke_174 : decode cX9_stroke 174 = .ok (.aload_n 0, 1) := by decide +kernel
theorem dX9_stroke_175 : decode cX9_stroke 175 = .ok (.getfield 22, 3) := by decide +kernel
theorem dX9_stroke_178 : decode cX9_stroke 178 = .ok (.iconst 0, 1) := by decide +kernel
theorem dX9_stroke_179 : decode cX9_stroke 179 = .ok (.iload_n 2, 1) := by decide +kernel
theorem dX9_stroke_180 : decode cX9_stroke 180 = .ok (.iadd, 1) := by decide +kernel
theorem dX9_stroke_181 : decode cX9_stroke 181 = .ok (.dup2, 1) := by decide +kernel
theorem dX9_stroke_182 : decode cX9_stroke 182 = .ok (.iaload, 1) := by decide +kernel
theorem dX9_stroke_183 : decode cX9_stroke 183 = .ok (.aload_n 0, 1) := by decide +kernel
theorem dX9_stroke_184 : decode cX9_stroke 184 = .ok (.getfield 34, 3) := by decide +kernel
theorem dX9_stroke_187 : decode cX9_stroke 187 = .ok (.iload_n 2, 1) := by decide +kernel
theorem dX9_stroke_188 : decode cX9_stroke 188 = .ok (.iaload, 1) := by decide +kernel
theorem dX9_stroke_189 : decode cX9_stroke 189 = .ok (.iadd, 1) := by decide +kernel
theorem dX9_stroke_190 : decode cX9_stroke 190 = .ok (.iastore, 1) := by decide +kernel
theorem dX9_stroke_191 : decode cX9_stroke 191 = .ok (.iinc 2 1, 3) := by decide +kernel
theorem dX9_stroke_194 : decode cX9_stroke 194 = .ok (.goto (-27), 3) := by decide +kernel
theorem dX9_stroke_197 : decode cX9_stroke 197 = .ok (.aload_n 0, 1) := by decide +kernel
theorem dX9_stroke_198 : decode cX9_stroke 198 = .ok (.getfield 22, 3) := by decide +kernel
theorem dX9_stroke_201 : decode cX9_stroke 201 = .ok (.sipush 151, 3) := by decide +kernel
theorem dX9_stroke_204 : decode cX9_stroke 204 = .ok (.dup2, 1) := by decide +kernel
theorem dX9_stroke_205 : decode cX9_stroke 205 = .ok (.iaload, 1) := by decide +kernel
theorem dX9_stroke_206 : decode cX9_stroke 206 = .ok (.iconst 1, 1) := by decide +kernel
theorem dX9_stroke_207 : decode cX9_stroke 207 = .ok (.iadd, 1) := by decide +kernel
theorem dX9_stroke_208 : decode cX9_stroke 208 = .ok (.iastore, 1) := by decide +kernel
theorem dX9_stroke_209 : decode cX9_stroke 209 = .ok (.return_, 1) := by decide +kernel
theorem dX9_allGrains_0 : decode cX9_allGrains 0 = .ok (.iconst 0, 1) := by decide +kernel
theorem dX9_allGrains_1 : decode cX9_allGrains 1 = .ok (.istore_n 1, 1) := by decide +kernel
theorem dX9_allGrains_2 : decode cX9_allGrains 2 = .ok (.iconst 0, 1) := by decide +kernel
theorem dX9_allGrains_3 : decode cX9_allGrains 3 = .ok (.istore_n 2, 1) := by decide +kernel
theorem dX9_allGrains_4 : decode cX9_allGrains 4 = .ok (.iload_n 2, 1) := by decide +kernel
theorem dX9_allGrains_5 : decode cX9_allGrains 5 = .ok (.sipush 144, 3) := by decide +kernel
theorem dX9_allGrains_8 : decode cX9_allGrains 8 = .ok (.if_icmp .ge 20, 3) := by decide +kernel
theorem dX9_allGrains_11 : decode cX9_allGrains 11 = .ok (.iload_n 1, 1) := by decide +kernel
theorem dX9_allGrains_12 : decode cX9_allGrains 12 = .ok (.aload_n 0, 1) := by decide +kernel
theorem dX9_allGrains_13 : decode cX9_allGrains 13 = .ok (.getfield 22, 3) := by decide +kernel
theorem dX9_allGrains_16 : decode cX9_allGrains 16 = .ok (.iconst 0, 1) := by decide +kernel
theorem dX9_allGrains_17 : decode cX9_allGrains 17 = .ok (.iload_n 2, 1) := by decide +kernel
theorem dX9_allGrains_18 : decode cX9_allGrains 18 = .ok (.iadd, 1) := by decide +kernel
theorem dX9_allGrains_19 : decode cX9_allGrains 19 = .ok (.iaload, 1) := by decide +kernel
theorem dX9_allGrains_20 : decode cX9_allGrains 20 = .ok (.iadd, 1) := by decide +kernel
theorem dX9_allGrains_21 : decode cX9_allGrains 21 = .ok (.istore_n 1, 1) := by decide +kernel
theorem dX9_allGrains_22 : decode cX9_allGrains 22 = .ok (.iinc 2 1, 3) := by decide +kernel
theorem dX9_allGrains_25 : decode cX9_allGrains 25 = .ok (.goto (-21), 3) := by decide +kernel
theorem dX9_allGrains_28 : decode cX9_allGrains 28 = .ok (.iload_n 1, 1) := by decide +kernel
theorem dX9_allGrains_29 : decode cX9_allGrains 29 = .ok (.ireturn, 1) := by decide +kernel
set_option maxRecDepth 20000 in
theorem ggX9_strew_X9_isOn : GoodIn wsX9_strew wsX9_isOn := goodIn_r _ [5, 6, 7, 4, 8] (by decide +kernel) (by decide +kernel)
set_option maxRecDepth 20000 in
theorem gX9_strew_X9_isOn : GoodIn wsX9_strew (va_wsS RX9 80 yX9_isOn wsX9_isOn) := goodIn_app (goodIn_of _ (by decide +kernel)) ggX9_strew_X9_isOn
set_option maxRecDepth 20000 in
theorem ggX9_strew_X9_in : GoodIn wsX9_strew wsX9_in := goodIn_r _ [8] (by decide +kernel) (by decide +kernel)
set_option maxRecDepth 20000 in
theorem gX9_strew_X9_in : GoodIn wsX9_strew (va_wsS RX9 55 yX9_in wsX9_in) := goodIn_app (goodIn_of _ (by decide +kernel)) ggX9_strew_X9_in
set_option maxRecDepth 20000 in
theorem ggX9_strew_X9_know : GoodIn wsX9_strew wsX9_know := goodIn_r _ [12, 13, 14, 1, 15, 16, 17, 18, 19, 20, 21, 22, 23, 24, 25, 26, 27, 28, 29, 30] (by decide +kernel) (by decide +kernel)
set_option maxRecDepth 20000 in
theorem gX9_strew_X9_know : GoodIn wsX9_strew (wsV RX9 89 RX9 yX9_know wsX9_know) := goodIn_app (goodIn_of _ (by decide +kernel)) ggX9_strew_X9_know
end
section
theorem dX9_strew_0 : decode cX9_strew 0 = .ok (.iload_n 1, 1) := by decide +kernel
theorem dX9_strew_1 : decode cX9_strew 1 = .ok (.iload_n 2, 1) := by decide +kernel
theorem dX9_strew_2 : decode cX9_strew 2 = .ok (.invokestatic 80, 3) := by decide +kernel
theorem dX9_strew_5 : decode cX9_strew 5 = .ok (.ifCond .ne 5, 3) := by decide +kernel
theorem dX9_strew_8 : decode cX9_strew 8 = .ok (.iconst (-1), 1) := by decide +kernel
theorem dX9_strew_9 : decode cX9_strew 9 = .ok (.ireturn, 1) := by decide +kernel
theorem dX9_strew_10 : decode cX9_strew 10 = .ok (.iload_n 3, 1) := by decide +kernel
theorem dX9_strew_11 : decode cX9_strew 11 = .ok (.iconst 1, 1) := by decide +kernel
theorem dX9_strew_12 : decode cX9_strew 12 = .ok (.bipush 99, 2) := by decide +kernel
theorem dX9_strew_14 : decode cX9_strew 14 = .ok (.invokestatic 55, 3) := by decide +kernel
theorem dX9_strew_17 : decode cX9_strew 17 = .ok (.ifCond .ne 6, 3) := by decide +kernel
theorem dX9_strew_20 : decode cX9_strew 20 = .ok (.bipush (-2), 2) := by decide +kernel
theorem dX9_strew_22 : decode cX9_strew 22 = .ok (.ireturn, 1) := by decide +kernel
theorem dX9_strew_23 : decode cX9_strew 23 = .ok (.aload_n 0, 1) := by decide +kernel
theorem dX9_strew_24 : decode cX9_strew 24 = .ok (.invokevirtual 89, 3) := by decide +kernel
theorem dX9_strew_27 : decode cX9_strew 27 = .ok (.aload_n 0, 1) := by decide +kernel
theorem dX9_strew_28 : decode cX9_strew 28 = .ok (.getfield 22, 3) := by decide +kernel
theorem dX9_strew_31 : decode cX9_strew 31 = .ok (.iconst 0, 1) := by decide +kernel
theorem dX9_strew_32 : decode cX9_strew 32 = .ok (.bipush 12, 2) := by decide +kernel
theorem dX9_strew_34 : decode cX9_strew 34 = .ok (.iload_n 2, 1) := by decide +kernel
theorem dX9_strew_35 : decode cX9_strew 35 = .ok (.imul, 1) := by decide +kernel
theorem dX9_strew_36 : decode cX9_strew 36 = .ok (.iadd, 1) := by decide +kernel
theorem dX9_strew_37 : decode cX9_strew 37 = .ok (.iload_n 1, 1) := by decide +kernel
theorem dX9_strew_38 : decode cX9_strew 38 = .ok (.iadd, 1) := by decide +kernel
theorem dX9_strew_39 : decode cX9_strew 39 = .ok (.dup2, 1) := by decide +kernel
theorem dX9_strew_40 : decode cX9_strew 40 = .ok (.iaload, 1) := by decide +kernel
theorem dX9_strew_41 : decode cX9_strew 41 = .ok (.iload_n 3, 1) := by decide +kernel
theorem dX9_strew_42 : decode cX9_strew 42 = .ok (.iadd, 1) := by decide +kernel
theorem dX9_strew_43 : decode cX9_strew 43 = .ok (.iastore, 1) := by decide +kernel
theorem dX9_strew_44 : decode cX9_strew 44 = .ok (.aload_n 0, 1) := by decide +kernel
theorem dX9_strew_45 : decode cX9_strew 45 = .ok (.getfield 22, 3) := by decide +kernel
theorem dX9_strew_48 : decode cX9_strew 48 = .ok (.sipush 148, 3) := by decide +kernel
theorem dX9_strew_51 : decode cX9_strew 51 = .ok (.dup2, 1) := by decide +kernel
theorem dX9_strew_52 : decode cX9_strew 52 = .ok (.iaload, 1) := by decide +kernel
theorem dX9_strew_53 : decode cX9_strew 53 = .ok (.iload_n 3, 1) := by decide +kernel
theorem dX9_strew_54 : decode cX9_strew 54 = .ok (.iadd, 1) := by decide +kernel
theorem dX9_strew_55 : decode cX9_strew 55 = .ok (.iastore, 1) := by decide +kernel
theorem dX9_strew_56 : decode cX9_strew 56 = .ok (.aload_n 0, 1) := by decide +kernel
theorem dX9_strew_57 : decode cX9_strew 57 = .ok (.getfield 22, 3) := by decide +kernel
theorem dX9_strew_60 : decode cX9_strew 60 = .ok (.iconst 0, 1) := by decide +kernel
theorem dX9_strew_61 : decode cX9_strew 61 = .ok (.bipush 12, 2) := by decide +kernel
theorem dX9_strew_63 : decode cX9_strew 63 = .ok (.iload_n 2, 1) := by decide +kernel
theorem dX9_strew_64 : decode cX9_strew 64 = .ok (.imul, 1) := by decide +kernel
theorem dX9_strew_65 : decode cX9_strew 65 = .ok (.iadd, 1) := by decide +kernel
theorem dX9_strew_66 : decode cX9_strew 66 = .ok (.iload_n 1, 1) := by decide +kernel
theorem dX9_strew_67 : decode cX9_strew 67 = .ok (.iadd, 1) := by decide +kernel
theorem dX9_strew_68 : decode cX9_strew 68 = .ok (.iaload, 1) := by decide +kernel
theorem dX9_strew_69 : decode cX9_strew 69 = .ok (.ireturn, 1) := by decide +kernel
set_option maxRecDepth 20000 in
theorem ggX9_sweep_X9_in : GoodIn wsX9_sweep wsX9_in := goodIn_r _ [5] (by decide +kernel) (by decide +kernel)
set_option maxRecDepth 20000 in
theorem gX9_sweep_X9_in : GoodIn wsX9_sweep (va_wsS RX9 55 yX9_in wsX9_in) := goodIn_app (goodIn_of _ (by decide +kernel)) ggX9_sweep_X9_in
set_option maxRecDepth 20000 in
theorem ggX9_sweep_X9_know : GoodIn wsX9_sweep wsX9_know := goodIn_r _ [9, 10, 11, 1, 16, 17, 18, 19, 20, 21, 22, 23, 24, 25, 26, 27, 28, 29, 30, 31] (by decide +kernel) (by decide +kernel)
set_option maxRecDepth 20000 in
theorem gX9_sweep_X9_know : GoodIn wsX9_sweep (wsV RX9 89 RX9 yX9_know wsX9_know) := goodIn_app (goodIn_of _ (by decide +kernel)) ggX9_sweep_X9_know
set_option maxRecDepth 20000 in
theorem ggX9_sweep_X9_allGrains : GoodIn wsX9_sweep wsX9_allGrains := goodIn_r _ [15, 1, 16, 17, 18, 19, 20, 21, 22, 23, 24, 25, 26, 27, 28, 29, 30, 31] (by decide +kernel) (by decide +kernel)
set_option maxRecDepth 20000 in
theorem gX9_sweep_X9_allGrains : GoodIn wsX9_sweep (wsV RX9 92 RX9 yX9_allGrains wsX9_allGrains) := goodIn_app (goodIn_of _ (by decide +kernel)) ggX9_sweep_X9_allGrains
theorem dX9_sweep_0 : decode cX9_sweep 0 = .ok (.iload_n 1, 1) := by decide +kernel
theorem dX9_sweep_1 : decode cX9_sweep 1 = .ok (.iconst 0, 1) := by decide +kernel
theorem dX9_sweep_2 : decode cX9_sweep 2 = .ok (.bipush 99, 2) := by decide +kernel
theorem dX9_sweep_4 : decode cX9_sweep 4 = .ok (.invokestatic 55, 3) := by decide +kernel
theorem dX9_sweep_7 : decode cX9_sweep 7 = .ok (.ifCond .ne 6, 3) := by decide +kernel
theorem dX9_sweep_10 : decode cX9_sweep 10 = .ok (.bipush (-2), 2) := by decide +kernel
theorem dX9_sweep_12 : decode cX9_sweep 12 = .ok (.ireturn, 1) := by decide +kernel
theorem dX9_sweep_13 : decode cX9_sweep 13 = .ok (.aload_n 0, 1) := by decide +kernel
theorem dX9_sweep_14 : decode cX9_sweep 14 = .ok (.invokevirtual 89, 3) := by decide +kernel
theorem dX9_sweep_17 : decode cX9_sweep 17 = .ok (.aload_n 0, 1) := by decide +kernel
theorem dX9_sweep_18 : decode cX9_sweep 18 = .ok (.invokevirtual 92, 3) := by decide +kernel
theorem dX9_sweep_21 : decode cX9_sweep 21 = .ok (.istore_n 2, 1) := by decide +kernel
theorem dX9_sweep_22 : decode cX9_sweep 22 = .ok (.aload_n 0, 1) := by decide +kernel
theorem dX9_sweep_23 : decode cX9_sweep 23 = .ok (.getfield 22, 3) := by decide +kernel
theorem dX9_sweep_26 : decode cX9_sweep 26 = .ok (.sipush 149, 3) := by decide +kernel
theorem dX9_sweep_29 : decode cX9_sweep 29 = .ok (.dup2, 1) := by decide +kernel
theorem dX9_sweep_30 : decode cX9_sweep 30 = .ok (.iaload, 1) := by decide +kernel
theorem dX9_sweep_31 : decode cX9_sweep 31 = .ok (.iload_n 2, 1) := by decide +kernel
theorem dX9_sweep_32 : decode cX9_sweep 32 = .ok (.iadd, 1) := by decide +kernel
theorem dX9_sweep_33 : decode cX9_sweep 33 = .ok (.iastore, 1) := by decide +kernel
theorem dX9_sweep_34 : decode cX9_sweep 34 = .ok (.aload_n 0, 1) := by decide +kernel
theorem dX9_sweep_35 : decode cX9_sweep 35 = .ok (.getfield 22, 3) := by decide +kernel
theorem dX9_sweep_38 : decode cX9_sweep 38 = .ok (.sipush 148, 3) := by decide +kernel
theorem dX9_sweep_41 : decode cX9_sweep 41 = .ok (.dup2, 1) := by decide +kernel
theorem dX9_sweep_42 : decode cX9_sweep 42 = .ok (.iaload, 1) := by decide +kernel
theorem dX9_sweep_43 : decode cX9_sweep 43 = .ok (.sipush 144, 3) := by decide +kernel
theorem dX9_sweep_46 : decode cX9_sweep 46 = .ok (.iload_n 1, 1) := by decide +kernel
theorem dX9_sweep_47 : decode cX9_sweep 47 = .ok (.imul, 1) := by decide +kernel
theorem dX9_sweep_48 : decode cX9_sweep 48 = .ok (.iadd, 1) := by decide +kernel
theorem dX9_sweep_49 : decode cX9_sweep 49 = .ok (.iastore, 1) := by decide +kernel
theorem dX9_sweep_50 : decode cX9_sweep 50 = .ok (.iconst 0, 1) := by decide +kernel
theorem dX9_sweep_51 : decode cX9_sweep 51 = .ok (.istore_n 3, 1) := by decide +kernel
theorem dX9_sweep_52 : decode cX9_sweep 52 = .ok (.iload_n 3, 1) := by decide +kernel
theorem dX9_sweep_53 : decode cX9_sweep 53 = .ok (.sipush 144, 3) := by decide +kernel
theorem dX9_sweep_56 : decode cX9_sweep 56 = .ok (.if_icmp .ge 18, 3) := by decide +kernel
theorem dX9_sweep_59 : decode cX9_sweep 59 = .ok (.aload_n 0, 1) := by decide +kernel
theorem dX9_sweep_60 : decode cX9_sweep 60 = .ok (.getfield 22, 3) := by decide +kernel
theorem dX9_sweep_63 : decode cX9_sweep 63 = .ok (.iconst 0, 1) := by decide +kernel
theorem dX9_sweep_64 : decode cX9_sweep 64 = .ok (.iload_n 3, 1) := by decide +kernel
theorem dX9_sweep_65 : decode cX9_sweep 65 = .ok (.iadd, 1) := by decide +kernel
theorem dX9_sweep_66 : decode cX9_sweep 66 = .ok (.iload_n 1, 1) := by decide +kernel
theorem dX9_sweep_67 : decode cX9_sweep 67 = .ok (.iastore, 1) := by decide +kernel
theorem dX9_sweep_68 : decode cX9_sweep 68 = .ok (.iinc 3 1, 3) := by decide +kernel
theorem dX9_sweep_71 : decode cX9_sweep 71 = .ok (.goto (-19), 3) := by decide +kernel
theorem dX9_sweep_74 : decode cX9_sweep 74 = .ok (.iload_n 2, 1) := by decide +kernel
theorem dX9_sweep_75 : decode cX9_sweep 75 = .ok (.ireturn, 1) := by decide +kernel
theorem dX9_clampOn_0 : decode cX9_clampOn 0 = .ok (.iconst 0, 1) := by decide +kernel
theorem dX9_clampOn_1 : decode cX9_clampOn 1 = .ok (.istore_n 2, 1) := by decide +kernel
theorem dX9_clampOn_2 : decode cX9_clampOn 2 = .ok (.iload_n 2, 1) := by decide +kernel
theorem dX9_clampOn_3 : decode cX9_clampOn 3 = .ok (.aload_n 0, 1) := by decide +kernel
theorem dX9_clampOn_4 : decode cX9_clampOn 4 = .ok (.getfield 22, 3) := by decide +kernel
theorem dX9_clampOn_7 : decode cX9_clampOn 7 = .ok (.sipush 154, 3) := by decide +kernel
theorem dX9_clampOn_10 : decode cX9_clampOn 10 = .ok (.iaload, 1) := by decide +kernel
theorem dX9_clampOn_11 : decode cX9_clampOn 11 = .ok (.if_icmp .ge 25, 3) := by decide +kernel
theorem dX9_clampOn_14 : decode cX9_clampOn 14 = .ok (.aload_n 0, 1) := by decide +kernel
theorem dX9_clampOn_15 : decode cX9_clampOn 15 = .ok (.getfield 22, 3) := by decide +kernel
theorem dX9_clampOn_18 : decode cX9_clampOn 18 = .ok (.sipush 155, 3) := by decide +kernel
theorem dX9_clampOn_21 : decode cX9_clampOn 21 = .ok (.iload_n 2, 1) := by decide +kernel
theorem dX9_clampOn_22 : decode cX9_clampOn 22 = .ok (.iadd, 1) := by decide +kernel
theorem dX9_clampOn_23 : decode cX9_clampOn 23 = .ok (.iaload, 1) := by decide +kernel
theorem dX9_clampOn_24 : decode cX9_clampOn 24 = .ok (.iload_n 1, 1) := by decide +kernel
theorem dX9_clampOn_25 : decode cX9_clampOn 25 = .ok (.if_icmp .ne 5, 3) := by decide +kernel
theorem dX9_clampOn_28 : decode cX9_clampOn 28 = .ok (.iload_n 2, 1) := by decide +kernel
theorem dX9_clampOn_29 : decode cX9_clampOn 29 = .ok (.ireturn, 1) := by decide +kernel
theorem dX9_clampOn_30 : decode cX9_clampOn 30 = .ok (.iinc 2 1, 3) := by decide +kernel
theorem dX9_clampOn_33 : decode cX9_clampOn 33 = .ok (.goto (-31), 3) := by decide +kernel
theorem dX9_clampOn_36 : decode cX9_clampOn 36 = .ok (.bipush (-5), 2) := by decide +kernel
theorem dX9_clampOn_38 : decode cX9_clampOn 38 = .ok (.ireturn, 1) := by decide +kernel
set_option maxRecDepth 20000 in
theorem ggX9_clamp_X9_isOn : GoodIn wsX9_clamp wsX9_isOn := goodIn_r _ [5, 6, 7, 4, 8] (by decide +kernel) (by decide +kernel)
set_option maxRecDepth 20000 in
theorem gX9_clamp_X9_isOn : GoodIn wsX9_clamp (va_wsS RX9 80 yX9_isOn wsX9_isOn) := goodIn_app (goodIn_of _ (by decide +kernel)) ggX9_clamp_X9_isOn
set_option maxRecDepth 20000 in
theorem ggX9_clamp_X9_clampOn : GoodIn wsX9_clamp wsX9_clampOn := goodIn_r _ [12, 1, 19, 20, 21, 22, 23, 24, 25, 26, 27, 28, 29, 30, 31, 32, 33, 34] (by decide +kernel) (by decide +kernel)
set_option maxRecDepth 20000 in
theorem gX9_clamp_X9_clampOn : GoodIn wsX9_clamp (wsV RX9 96 RX9 yX9_clampOn wsX9_clampOn) := goodIn_app (goodIn_of _ (by decide +kernel)) ggX9_clamp_X9_clampOn
set_option maxRecDepth 20000 in
theorem ggX9_clamp_X9_know : GoodIn wsX9_clamp wsX9_know := goodIn_r _ [16, 17, 18, 1, 19, 20, 21, 22, 23, 24, 25, 26, 27, 28, 29, 30, 31, 32, 33, 34] (by decide +kernel) (by decide +kernel)
set_option maxRecDepth 20000 in
theorem gX9_clamp_X9_know : GoodIn wsX9_clamp (wsV RX9 89 RX9 yX9_know wsX9_know) := goodIn_app (goodIn_of _ (by decide +kernel)) ggX9_clamp_X9_know
theorem dX9_clamp_0 : decode cX9_clamp 0 = .ok (.iload_n 1, 1) := by decide +kernel
theorem dX9_clamp_1 : decode cX9_clamp 1 = .ok (.iload_n 2, 1) := by decide +kernel
theorem dX9_clamp_2 : decode cX9_clamp 2 = .ok (.invokestatic 80, 3) := by decide +kernel
theorem dX9_clamp_5 : decode cX9_clamp 5 = .ok (.ifCond .ne 5, 3) := by decide +kernel
theorem dX9_clamp_8 : decode cX9_clamp 8 = .ok (.iconst (-1), 1) := by decide +kernel
theorem dX9_clamp_9 : decode cX9_clamp 9 = .ok (.ireturn, 1) := by decide +kernel
theorem dX9_clamp_10 : decode cX9_clamp 10 = .ok (.aload_n 0, 1) := by decide +kernel
theorem dX9_clamp_11 : decode cX9_clamp 11 = .ok (.getfield 22, 3) := by decide +kernel
theorem dX9_clamp_14 : decode cX9_clamp 14 = .ok (.sipush 154, 3) := by decide +kernel
theorem dX9_clamp_17 : decode cX9_clamp 17 = .ok (.iaload, 1) := by decide +kernel
theorem dX9_clamp_18 : decode cX9_clamp 18 = .ok (.iconst 4, 1) := by decide +kernel
theorem dX9_clamp_19 : decode cX9_clamp 19 = .ok (.if_icmp .ne 6, 3) := by decide +kernel
theorem dX9_clamp_22 : decode cX9_clamp 22 = .ok (.bipush (-3), 2) := by decide +kernel
theorem dX9_clamp_24 : decode cX9_clamp 24 = .ok (.ireturn, 1) := by decide +kernel
theorem dX9_clamp_25 : decode cX9_clamp 25 = .ok (.aload_n 0, 1) := by decide +kernel
theorem dX9_clamp_26 : decode cX9_clamp 26 = .ok (.bipush 12, 2) := by decide +kernel
theorem dX9_clamp_28 : decode cX9_clamp 28 = .ok (.iload_n 2, 1) := by decide +kernel
theorem dX9_clamp_29 : decode cX9_clamp 29 = .ok (.imul, 1) := by decide +kernel
theorem dX9_clamp_30 : decode cX9_clamp 30 = .ok (.iload_n 1, 1) := by decide +kernel
theorem dX9_clamp_31 : decode cX9_clamp 31 = .ok (.iadd, 1) := by decide +kernel
theorem dX9_clamp_32 : decode cX9_clamp 32 = .ok (.invokevirtual 96, 3) := by decide +kernel
theorem dX9_clamp_35 : decode cX9_clamp 35 = .ok (.bipush (-5), 2) := by decide +kernel
theorem dX9_clamp_37 : decode cX9_clamp 37 = .ok (.if_icmp .eq 6, 3) := by decide +kernel
theorem dX9_clamp_40 : decode cX9_clamp 40 = .ok (.bipush (-5), 2) := by decide +kernel
theorem dX9_clamp_42 : decode cX9_clamp 42 = .ok (.ireturn, 1) := by decide +kernel
theorem dX9_clamp_43 : decode cX9_clamp 43 = .ok (.aload_n 0, 1) := by decide +kernel
theorem dX9_clamp_44 : decode cX9_clamp 44 = .ok (.invokevirtual 89, 3) := by decide +kernel
theorem dX9_clamp_47 : decode cX9_clamp 47 = .ok (.aload_n 0, 1) := by decide +kernel
theorem dX9_clamp_48 : decode cX9_clamp 48 = .ok (.getfield 22, 3) := by decide +kernel
theorem dX9_clamp_51 : decode cX9_clamp 51 = .ok (.sipush 155, 3) := by decide +kernel
theorem dX9_clamp_54 : decode cX9_clamp 54 = .ok (.aload_n 0, 1) := by decide +kernel
theorem dX9_clamp_55 : decode cX9_clamp 55 = .ok (.getfield 22, 3) := by decide +kernel
theorem dX9_clamp_58 : decode cX9_clamp 58 = .ok (.sipush 154, 3) := by decide +kernel
theorem dX9_clamp_61 : decode cX9_clamp 61 = .ok (.iaload, 1) := by decide +kernel
theorem dX9_clamp_62 : decode cX9_clamp 62 = .ok (.iadd, 1) := by decide +kernel
theorem dX9_clamp_63 : decode cX9_clamp 63 = .ok (.bipush 12, 2) := by decide +kernel
theorem dX9_clamp_65 : decode cX9_clamp 65 = .ok (.iload_n 2, 1) := by decide +kernel
theorem dX9_clamp_66 : decode cX9_clamp 66 = .ok (.imul, 1) := by decide +kernel
theorem dX9_clamp_67 : decode cX9_clamp 67 = .ok (.iload_n 1, 1) := by decide +kernel
theorem dX9_clamp_68 : decode cX9_clamp 68 = .ok (.iadd, 1) := by decide +kernel
theorem dX9_clamp_69 : decode cX9_clamp 69 = .ok (.iastore, 1) := by decide +kernel
theorem dX9_clamp_70 : decode cX9_clamp 70 = .ok (.aload_n 0, 1) := by decide +kernel
theorem dX9_clamp_71 : decode cX9_clamp 71 = .ok (.getfield 22, 3) := by decide +kernel
theorem dX9_clamp_74 : decode cX9_clamp 74 = .ok (.sipush 154, 3) := by decide +kernel
theorem dX9_clamp_77 : decode cX9_clamp 77 = .ok (.dup2, 1) := by decide +kernel
theorem dX9_clamp_78 : decode cX9_clamp 78 = .ok (.iaload, 1) := by decide +kernel
theorem dX9_clamp_79 : decode cX9_clamp 79 = .ok (.iconst 1, 1) := by decide +kernel
theorem dX9_clamp_80 : decode cX9_clamp 80 = .ok (.iadd, 1) := by decide +kernel
theorem dX9_clamp_81 : decode cX9_clamp 81 = .ok (.iastore, 1) := by decide +kernel
theorem dX9_clamp_82 : decode cX9_clamp 82 = .ok (.aload_n 0, 1) := by decide +kernel
theorem dX9_clamp_83 : decode cX9_clamp 83 = .ok (.getfield 22, 3) := by decide +kernel
theorem dX9_clamp_86 : decode cX9_clamp 86 = .ok (.sipush 154, 3) := by decide +kernel
theorem dX9_clamp_89 : decode cX9_clamp 89 = .ok (.iaload, 1) := by decide +kernel
theorem dX9_clamp_90 : decode cX9_clamp 90 = .ok (.ireturn, 1) := by decide +kernel
set_option maxRecDepth 20000 in
theorem ggX9_unclamp_X9_in : GoodIn wsX9_unclamp wsX9_in := goodIn_r _ [5] (by decide +kernel) (by decide +kernel)
set_option maxRecDepth 20000 in
theorem gX9_unclamp_X9_in : GoodIn wsX9_unclamp (va_wsS RX9 55 yX9_in wsX9_in) := goodIn_app (goodIn_of _ (by decide +kernel)) ggX9_unclamp_X9_in
set_option maxRecDepth 20000 in
theorem ggX9_unclamp_X9_know : GoodIn wsX9_unclamp wsX9_know := goodIn_r _ [9, 10, 11, 1, 12, 13, 14, 15, 16, 17, 18, 19, 20, 21, 22, 23, 24, 25, 26, 27] (by decide +kernel) (by decide +kernel)
set_option maxRecDepth 20000 in
theorem gX9_unclamp_X9_know : GoodIn wsX9_unclamp (wsV RX9 89 RX9 yX9_know wsX9_know) := goodIn_app (goodIn_of _ (by decide +kernel)) ggX9_unclamp_X9_know
theorem dX9_unclamp_0 : decode cX9_unclamp 0 = .ok (.iload_n 1, 1) := by decide +kernel
theorem dX9_unclamp_1 : decode cX9_unclamp 1 = .ok (.iconst 0, 1) := by decide +kernel
theorem dX9_unclamp_2 : decode cX9_unclamp 2 = .ok (.aload_n 0, 1) := by decide +kernel
theorem dX9_unclamp_3 : decode cX9_unclamp 3 = .ok (.getfield 22, 3) := by decide +kernel
theorem dX9_unclamp_6 : decode cX9_unclamp 6 = .ok (.sipush 154, 3) := by decide +kernel
theorem dX9_unclamp_9 : decode cX9_unclamp 9 = .ok (.iaload, 1) := by decide +kernel
theorem dX9_unclamp_10 : decode cX9_unclamp 10 = .ok (.iconst 1, 1) := by decide +kernel
theorem dX9_unclamp_11 : decode cX9_unclamp 11 = .ok (.isub, 1) := by decide +kernel
theorem dX9_unclamp_12 : decode cX9_unclamp 12 = .ok (.invokestatic 55, 3) := by decide +kernel
theorem dX9_unclamp_15 : decode cX9_unclamp 15 = .ok (.ifCond .ne 5, 3) := by decide +kernel
theorem dX9_unclamp_18 : decode cX9_unclamp 18 = .ok (.iconst (-1), 1) := by decide +kernel
theorem dX9_unclamp_19 : decode cX9_unclamp 19 = .ok (.ireturn, 1) := by decide +kernel
theorem dX9_unclamp_20 : decode cX9_unclamp 20 = .ok (.aload_n 0, 1) := by decide +kernel
theorem dX9_unclamp_21 : decode cX9_unclamp 21 = .ok (.invokevirtual 89, 3) := by decide +kernel
theorem dX9_unclamp_24 : decode cX9_unclamp 24 = .ok (.aload_n 0, 1) := by decide +kernel
theorem dX9_unclamp_25 : decode cX9_unclamp 25 = .ok (.getfield 22, 3) := by decide +kernel
theorem dX9_unclamp_28 : decode cX9_unclamp 28 = .ok (.sipush 154, 3) := by decide +kernel
theorem dX9_unclamp_31 : decode cX9_unclamp 31 = .ok (.dup2, 1) := by decide +kernel
theorem dX9_unclamp_32 : decode cX9_unclamp 32 = .ok (.iaload, 1) := by decide +kernel
theorem dX9_unclamp_33 : decode cX9_unclamp 33 = .ok (.iconst 1, 1) := by decide +kernel
theorem dX9_unclamp_34 : decode cX9_unclamp 34 = .ok (.isub, 1) := by decide +kernel
theorem dX9_unclamp_35 : decode cX9_unclamp 35 = .ok (.iastore, 1) := by decide +kernel
theorem dX9_unclamp_36 : decode cX9_unclamp 36 = .ok (.iload_n 1, 1) := by decide +kernel
theorem dX9_unclamp_37 : decode cX9_unclamp 37 = .ok (.istore_n 2, 1) := by decide +kernel
theorem dX9_unclamp_38 : decode cX9_unclamp 38 = .ok (.iload_n 2, 1) := by decide +kernel
theorem dX9_unclamp_39 : decode cX9_unclamp 39 = .ok (.aload_n 0, 1) := by decide +kernel
theorem dX9_unclamp_40 : decode cX9_unclamp 40 = .ok (.getfield 22, 3) := by decide +kernel
theorem dX9_unclamp_43 : decode cX9_unclamp 43 = .ok (.sipush 154, 3) := by decide +kernel
theorem dX9_unclamp_46 : decode cX9_unclamp 46 = .ok (.iaload, 1) := by decide +kernel
theorem dX9_unclamp_47 : decode cX9_unclamp 47 = .ok (.if_icmp .ge 31, 3) := by decide +kernel
theorem dX9_unclamp_50 : decode cX9_unclamp 50 = .ok (.aload_n 0, 1) := by decide +kernel
theorem dX9_unclamp_51 : decode cX9_unclamp 51 = .ok (.getfield 22, 3) := by decide +kernel
theorem dX9_unclamp_54 : decode cX9_unclamp 54 = .ok (.sipush 155, 3) := by decide +kernel
theorem dX9_unclamp_57 : decode cX9_unclamp 57 = .ok (.iload_n 2, 1) := by decide +kernel
theorem dX9_unclamp_58 : decode cX9_unclamp 58 = .ok (.iadd, 1) := by decide +kernel
theorem dX9_unclamp_59 : decode cX9_unclamp 59 = .ok (.aload_n 0, 1) := by decide +kernel
theorem dX9_unclamp_60 : decode cX9_unclamp 60 = .ok (.getfield 22, 3) := by decide +kernel
theorem dX9_unclamp_63 : decode cX9_unclamp 63 = .ok (.sipush 155, 3) := by decide +kernel
theorem dX9_unclamp_66 : decode cX9_unclamp 66 = .ok (.iload_n 2, 1) := by decide +kernel
theorem dX9_unclamp_67 : decode cX9_unclamp 67 = .ok (.iadd, 1) := by decide +kernel
theorem dX9_unclamp_68 : decode cX9_unclamp 68 = .ok (.iconst 1, 1) := by decide +kernel
theorem dX9_unclamp_69 : decode cX9_unclamp 69 = .ok (.iadd, 1) := by decide +kernel
theorem dX9_unclamp_70 : decode cX9_unclamp 70 = .ok (.iaload, 1) := by decide +kernel
theorem dX9_unclamp_71 : decode cX9_unclamp 71 = .ok (.iastore, 1) := by decide +kernel
theorem dX9_unclamp_72 : decode cX9_unclamp 72 = .ok (.iinc 2 1, 3) := by decide +kernel
theorem dX9_unclamp_75 : decode cX9_unclamp 75 = .ok (.goto (-37), 3) := by decide +kernel
theorem dX9_unclamp_78 : decode cX9_unclamp 78 = .ok (.aload_n 0, 1) := by decide +kernel
theorem dX9_unclamp_79 : decode cX9_unclamp 79 = .ok (.getfield 22, 3) := by decide +kernel
theorem dX9_unclamp_82 : decode cX9_unclamp 82 = .ok (.sipush 154, 3) := by decide +kernel
theorem dX9_unclamp_85 : decode cX9_unclamp 85 = .ok (.iaload, 1) := by decide +kernel
theorem dX9_unclamp_86 : decode cX9_unclamp 86 = .ok (.ireturn, 1) := by decide +kernel
set_option maxRecDepth 20000 in
theorem ggX9_set_X9_in : GoodIn wsX9_set wsX9_in := goodIn_r _ [5] (by decide +kernel) (by decide +kernel)
set_option maxRecDepth 20000 in
theorem gX9_set_X9_in : GoodIn wsX9_set (va_wsS RX9 55 yX9_in wsX9_in) := goodIn_app (goodIn_of _ (by decide +kernel)) ggX9_set_X9_in
set_option maxRecDepth 20000 in
theorem ggX9_set_X9_know : GoodIn wsX9_set wsX9_know := goodIn_r _ [9, 10, 11, 1, 12, 13, 14, 15, 16, 17, 18, 19, 20, 21, 22, 23, 24, 25, 26, 27] (by decide +kernel) (by decide +kernel)
set_option maxRecDepth 20000 in
theorem gX9_set_X9_know : GoodIn wsX9_set (wsV RX9 89 RX9 yX9_know wsX9_know) := goodIn_app (goodIn_of _ (by decide +kernel)) ggX9_set_X9_know
theorem dX9_set_0 : decode cX9_set 0 = .ok (.iload_n 1, 1) := by decide +kernel
theorem dX9_set_1 : decode cX9_set 1 = .ok (.iconst 1, 1) := by decide +kernel
theorem dX9_set_2 : decode cX9_set 2 = .ok (.if_icmp .ne 7, 3) := by decide +kernel
theorem dX9_set_5 : decode cX9_set 5 = .ok (.iconst 1, 1) := by decide +kernel
theorem dX9_set_6 : decode cX9_set 6 = .ok (.goto 14, 3) := by decide +kernel
theorem dX9_set_9 : decode cX9_set 9 = .ok (.iload_n 1, 1) := by decide +kernel
theorem dX9_set_10 : decode cX9_set 10 = .ok (.iconst 3, 1) := by decide +kernel
theorem dX9_set_11 : decode cX9_set 11 = .ok (.if_icmp .ne 8, 3) := by decide +kernel
theorem dX9_set_14 : decode cX9_set 14 = .ok (.bipush 50, 2) := by decide +kernel
theorem dX9_set_16 : decode cX9_set 16 = .ok (.goto 4, 3) := by decide +kernel
theorem dX9_set_19 : decode cX9_set 19 = .ok (.iconst 0, 1) := by decide +kernel
theorem dX9_set_20 : decode cX9_set 20 = .ok (.istore_n 3, 1) := by decide +kernel
theorem dX9_set_21 : decode cX9_set 21 = .ok (.iload_n 1, 1) := by decide +kernel
theorem dX9_set_22 : decode cX9_set 22 = .ok (.iconst 1, 1) := by decide +kernel
theorem dX9_set_23 : decode cX9_set 23 = .ok (.if_icmp .ne 9, 3) := by decide +kernel
theorem dX9_set_26 : decode cX9_set 26 = .ok (.sipush 150, 3) := by decide +kernel
theorem dX9_set_29 : decode cX9_set 29 = .ok (.goto 16, 3) := by decide +kernel
theorem dX9_set_32 : decode cX9_set 32 = .ok (.iload_n 1, 1) := by decide +kernel
theorem dX9_set_33 : decode cX9_set 33 = .ok (.iconst 3, 1) := by decide +kernel
theorem dX9_set_34 : decode cX9_set 34 = .ok (.if_icmp .ne 9, 3) := by decide +kernel
theorem dX9_set_37 : decode cX9_set 37 = .ok (.sipush 201, 3) := by decide +kernel
theorem dX9_set_40 : decode cX9_set 40 = .ok (.goto 5, 3) := by decide +kernel
theorem dX9_set_43 : decode cX9_set 43 = .ok (.bipush 60, 2) := by decide +kernel
theorem dX9_set_45 : decode cX9_set 45 = .ok (.istore 4, 2) := by decide +kernel
theorem dX9_set_47 : decode cX9_set 47 = .ok (.iload_n 1, 1) := by decide +kernel
theorem dX9_set_48 : decode cX9_set 48 = .ok (.iconst 0, 1) := by decide +kernel
theorem dX9_set_49 : decode cX9_set 49 = .ok (.iconst 3, 1) := by decide +kernel
theorem dX9_set_50 : decode cX9_set 50 = .ok (.invokestatic 55, 3) := by decide +kernel
theorem dX9_set_53 : decode cX9_set 53 = .ok (.ifCond .eq 13, 3) := by decide +kernel
theorem dX9_set_56 : decode cX9_set 56 = .ok (.iload_n 2, 1) := by decide +kernel
theorem dX9_set_57 : decode cX9_set 57 = .ok (.iload_n 3, 1) := by decide +kernel
theorem dX9_set_58 : decode cX9_set 58 = .ok (.iload 4, 2) := by decide +kernel
theorem dX9_set_60 : decode cX9_set 60 = .ok (.invokestatic 55, 3) := by decide +kernel
theorem dX9_set_63 : decode cX9_set 63 = .ok (.ifCond .ne 6, 3) := by decide +kernel
theorem dX9_set_66 : decode cX9_set 66 = .ok (.bipush (-2), 2) := by decide +kernel
theorem dX9_set_68 : decode cX9_set 68 = .ok (.ireturn, 1) := by decide +kernel
theorem dX9_set_69 : decode cX9_set 69 = .ok (.aload_n 0, 1) := by decide +kernel
theorem dX9_set_70 : decode cX9_set 70 = .ok (.getfield 22, 3) := by decide +kernel
theorem dX9_set_73 : decode cX9_set 73 = .ok (.sipush 144, 3) := by decide +kernel
theorem dX9_set_76 : decode cX9_set 76 = .ok (.iload_n 1, 1) := by decide +kernel
theorem dX9_set_77 : decode cX9_set 77 = .ok (.iadd, 1) := by decide +kernel
theorem dX9_set_78 : decode cX9_set 78 = .ok (.iaload, 1) := by decide +kernel
theorem dX9_set_79 : decode cX9_set 79 = .ok (.istore 5, 2) := by decide +kernel
theorem dX9_set_81 : decode cX9_set 81 = .ok (.iload 5, 2) := by decide +kernel
theorem dX9_set_83 : decode cX9_set 83 = .ok (.iload_n 2, 1) := by decide +kernel
theorem dX9_set_84 : decode cX9_set 84 = .ok (.if_icmp .ne 6, 3) := by decide +kernel
theorem dX9_set_87 : decode cX9_set 87 = .ok (.bipush (-5), 2) := by decide +kernel
theorem dX9_set_89 : decode cX9_set 89 = .ok (.ireturn, 1) := by decide +kernel
theorem dX9_set_90 : decode cX9_set 90 = .ok (.aload_n 0, 1) := by decide +kernel
theorem dX9_set_91 : decode cX9_set 91 = .ok (.invokevirtual 89, 3) := by decide +kernel
theorem dX9_set_94 : decode cX9_set 94 = .ok (.aload_n 0, 1) := by decide +kernel
theorem dX9_set_95 : decode cX9_set 95 = .ok (.getfield 22, 3) := by decide +kernel
theorem dX9_set_98 : decode cX9_set 98 = .ok (.sipush 144, 3) := by decide +kernel
theorem dX9_set_101 : decode cX9_set 101 = .ok (.iload_n 1, 1) := by decide +kernel
theorem dX9_set_102 : decode cX9_set 102 = .ok (.iadd, 1) := by decide +kernel
theorem dX9_set_103 : decode cX9_set 103 = .ok (.iload_n 2, 1) := by decide +kernel
theorem dX9_set_104 : decode cX9_set 104 = .ok (.iastore, 1) := by decide +kernel
theorem dX9_set_105 : decode cX9_set 105 = .ok (.iload 5, 2) := by decide +kernel
theorem dX9_set_107 : decode cX9_set 107 = .ok (.ireturn, 1) := by decide +kernel
theorem dX9_waits_0 : decode cX9_waits 0 = .ok (.sipush 160, 3) := by decide +kernel
theorem dX9_waits_3 : decode cX9_waits 3 = .ok (.iconst 3, 1) := by decide +kernel
theorem dX9_waits_4 : decode cX9_waits 4 = .ok (.aload_n 0, 1) := by decide +kernel
theorem dX9_waits_5 : decode cX9_waits 5 = .ok (.getfield 22, 3) := by decide +kernel
theorem dX9_waits_8 : decode cX9_waits 8 = .ok (.sipush 159, 3) := by decide +kernel
theorem dX9_waits_11 : decode cX9_waits 11 = .ok (.iaload, 1) := by decide +kernel
theorem dX9_waits_12 : decode cX9_waits 12 = .ok (.imul, 1) := by decide +kernel
theorem dX9_waits_13 : decode cX9_waits 13 = .ok (.iadd, 1) := by decide +kernel
theorem dX9_waits_14 : decode cX9_waits 14 = .ok (.istore 4, 2) := by decide +kernel
theorem dX9_waits_16 : decode cX9_waits 16 = .ok (.aload_n 0, 1) := by decide +kernel
theorem dX9_waits_17 : decode cX9_waits 17 = .ok (.getfield 22, 3) := by decide +kernel
theorem dX9_waits_20 : decode cX9_waits 20 = .ok (.iload 4, 2) := by decide +kernel
theorem dX9_waits_22 : decode cX9_waits 22 = .ok (.iload_n 1, 1) := by decide +kernel
theorem dX9_waits_23 : decode cX9_waits 23 = .ok (.iastore, 1) := by decide +kernel
theorem dX9_waits_24 : decode cX9_waits 24 = .ok (.aload_n 0, 1) := by decide +kernel
theorem dX9_waits_25 : decode cX9_waits 25 = .ok (.getfield 22, 3) := by decide +kernel
theorem dX9_waits_28 : decode cX9_waits 28 = .ok (.iload 4, 2) := by decide +kernel
theorem dX9_waits_30 : decode cX9_waits 30 = .ok (.iconst 1, 1) := by decide +kernel
theorem dX9_waits_31 : decode cX9_waits 31 = .ok (.iadd, 1) := by decide +kernel
theorem dX9_waits_32 : decode cX9_waits 32 = .ok (.iload_n 2, 1) := by decide +kernel
theorem dX9_waits_33 : decode cX9_waits 33 = .ok (.iastore, 1) := by decide +kernel
theorem dX9_waits_34 : decode cX9_waits 34 = .ok (.aload_n 0, 1) := by decide +kernel
theorem dX9_waits_35 : decode cX9_waits 35 = .ok (.getfield 22, 3) := by decide +kernel
theorem dX9_waits_38 : decode cX9_waits 38 = .ok (.iload 4, 2) := by decide +kernel
theorem dX9_waits_40 : decode cX9_waits 40 = .ok (.iconst 2, 1) := by decide +kernel
theorem dX9_waits_41 : decode cX9_waits 41 = .ok (.iadd, 1) := by decide +kernel
theorem dX9_waits_42 : decode cX9_waits 42 = .ok (.iload_n 3, 1) := by decide +kernel
theorem dX9_waits_43 : decode cX9_waits 43 = .ok (.iastore, 1) := by decide +kernel
theorem dX9_waits_44 : decode cX9_waits 44 = .ok (.aload_n 0, 1) := by decide +kernel
theorem dX9_waits_45 : decode cX9_waits 45 = .ok (.getfield 22, 3) := by decide +kernel
theorem dX9_waits_48 : decode cX9_waits 48 = .ok (.sipush 159, 3) := by decide +kernel
theorem dX9_waits_51 : decode cX9_waits 51 = .ok (.dup2, 1) := by decide +kernel
theorem dX9_waits_52 : decode cX9_waits 52 = .ok (.iaload, 1) := by decide +kernel
theorem dX9_waits_53 : decode cX9_waits 53 = .ok (.iconst 1, 1) := by decide +kernel
theorem dX9_waits_54 : decode cX9_waits 54 = .ok (.iadd, 1) := by decide +kernel
theorem dX9_waits_55 : decode cX9_waits 55 = .ok (.iastore, 1) := by decide +kernel
theorem dX9_waits_56 : decode cX9_waits 56 = .ok (.aload_n 0, 1) := by decide +kernel
theorem dX9_waits_57 : decode cX9_waits 57 = .ok (.getfield 22, 3) := by decide +kernel
theorem dX9_waits_60 : decode cX9_waits 60 = .ok (.sipush 159, 3) := by decide +kernel
theorem dX9_waits_63 : decode cX9_waits 63 = .ok (.iaload, 1) := by decide +kernel
theorem dX9_waits_64 : decode cX9_waits 64 = .ok (.ireturn, 1) := by decide +kernel
set_option maxRecDepth 20000 in
theorem ggX9_bow_X9_isBow : GoodIn wsX9_bow wsX9_isBow := goodIn_r _ [5, 6, 7, 4, 8] (by decide +kernel) (by decide +kernel)
set_option maxRecDepth 20000 in
theorem gX9_bow_X9_isBow : GoodIn wsX9_bow (va_wsS RX9 99 yX9_isBow wsX9_isBow) := goodIn_app (goodIn_of _ (by decide +kernel)) ggX9_bow_X9_isBow
set_option maxRecDepth 20000 in
theorem ggX9_bow_X9_in : GoodIn wsX9_bow wsX9_in := goodIn_r _ [8] (by decide +kernel) (by decide +kernel)
set_option maxRecDepth 20000 in
theorem gX9_bow_X9_in : GoodIn wsX9_bow (va_wsS RX9 55 yX9_in wsX9_in) := goodIn_app (goodIn_of _ (by decide +kernel)) ggX9_bow_X9_in
set_option maxRecDepth 20000 in
theorem ggX9_bow_X9_know : GoodIn wsX9_bow wsX9_know := goodIn_r _ [12, 13, 14, 1, 19, 20, 21, 22, 23, 24, 25, 26, 27, 28, 29, 30, 31, 32, 33, 34] (by decide +kernel) (by decide +kernel)
set_option maxRecDepth 20000 in
theorem gX9_bow_X9_know : GoodIn wsX9_bow (wsV RX9 89 RX9 yX9_know wsX9_know) := goodIn_app (goodIn_of _ (by decide +kernel)) ggX9_bow_X9_know
set_option maxRecDepth 20000 in
theorem ggX9_bow_X9_waits : GoodIn wsX9_bow wsX9_waits := goodIn_r _ [18, 1, 19, 20, 21, 22, 23, 24, 25, 26, 27, 28, 29, 30, 31, 32, 33, 34] (by decide +kernel) (by decide +kernel)
set_option maxRecDepth 20000 in
theorem gX9_bow_X9_waits : GoodIn wsX9_bow (wsV RX9 102 RX9 yX9_waits wsX9_waits) := goodIn_app (goodIn_of _ (by decide +kernel)) ggX9_bow_X9_waits
theorem dX9_bow_0 : decode cX9_bow 0 = .ok (.iload_n 1, 1) := by decide +kernel
theorem dX9_bow_1 : decode cX9_bow 1 = .ok (.iload_n 2, 1) := by decide +kernel
theorem dX9_bow_2 : decode cX9_bow 2 = .ok (.invokestatic 99, 3) := by decide +kernel
theorem dX9_bow_5 : decode cX9_bow 5 = .ok (.ifCond .ne 5, 3) := by decide +kernel
theorem dX9_bow_8 : decode cX9_bow 8 = .ok (.iconst (-1), 1) := by decide +kernel
theorem dX9_bow_9 : decode cX9_bow 9 = .ok (.ireturn, 1) := by decide +kernel
theorem dX9_bow_10 : decode cX9_bow 10 = .ok (.iload_n 3, 1) := by decide +kernel
theorem dX9_bow_11 : decode cX9_bow 11 = .ok (.iconst 1, 1) := by decide +kernel
theorem dX9_bow_12 : decode cX9_bow 12 = .ok (.bipush 20, 2) := by decide +kernel
theorem dX9_bow_14 : decode cX9_bow 14 = .ok (.invokestatic 55, 3) := by decide +kernel
theorem dX9_bow_17 : decode cX9_bow 17 = .ok (.ifCond .ne 6, 3) := by decide +kernel
theorem dX9_bow_20 : decode cX9_bow 20 = .ok (.bipush (-2), 2) := by decide +kernel
theorem dX9_bow_22 : decode cX9_bow 22 = .ok (.ireturn, 1) := by decide +kernel
theorem dX9_bow_23 : decode cX9_bow 23 = .ok (.aload_n 0, 1) := by decide +kernel
theorem dX9_bow_24 : decode cX9_bow 24 = .ok (.getfield 22, 3) := by decide +kernel
theorem dX9_bow_27 : decode cX9_bow 27 = .ok (.sipush 159, 3) := by decide +kernel
theorem dX9_bow_30 : decode cX9_bow 30 = .ok (.iaload, 1) := by decide +kernel
theorem dX9_bow_31 : decode cX9_bow 31 = .ok (.bipush 16, 2) := by decide +kernel
theorem dX9_bow_33 : decode cX9_bow 33 = .ok (.if_icmp .ne 6, 3) := by decide +kernel
theorem dX9_bow_36 : decode cX9_bow 36 = .ok (.bipush (-3), 2) := by decide +kernel
theorem dX9_bow_38 : decode cX9_bow 38 = .ok (.ireturn, 1) := by decide +kernel
theorem dX9_bow_39 : decode cX9_bow 39 = .ok (.aload_n 0, 1) := by decide +kernel
theorem dX9_bow_40 : decode cX9_bow 40 = .ok (.invokevirtual 89, 3) := by decide +kernel
theorem dX9_bow_43 : decode cX9_bow 43 = .ok (.aload_n 0, 1) := by decide +kernel
theorem dX9_bow_44 : decode cX9_bow 44 = .ok (.iload_n 1, 1) := by decide +kernel
theorem dX9_bow_45 : decode cX9_bow 45 = .ok (.iload_n 2, 1) := by decide +kernel
theorem dX9_bow_46 : decode cX9_bow 46 = .ok (.iload_n 3, 1) := by decide +kernel
theorem dX9_bow_47 : decode cX9_bow 47 = .ok (.invokevirtual 102, 3) := by decide +kernel
theorem dX9_bow_50 : decode cX9_bow 50 = .ok (.ireturn, 1) := by decide +kernel
theorem dX9_strikeAt_0 : decode cX9_strikeAt 0 = .ok (.aload_n 0, 1) := by decide +kernel
theorem dX9_strikeAt_1 : decode cX9_strikeAt 1 = .ok (.getfield 22, 3) := by decide +kernel
theorem dX9_strikeAt_4 : decode cX9_strikeAt 4 = .ok (.sipush 159, 3) := by decide +kernel
theorem dX9_strikeAt_7 : decode cX9_strikeAt 7 = .ok (.dup2, 1) := by decide +kernel
theorem dX9_strikeAt_8 : decode cX9_strikeAt 8 = .ok (.iaload, 1) := by decide +kernel
theorem dX9_strikeAt_9 : decode cX9_strikeAt 9 = .ok (.iconst 1, 1) := by decide +kernel
theorem dX9_strikeAt_10 : decode cX9_strikeAt 10 = .ok (.isub, 1) := by decide +kernel
theorem dX9_strikeAt_11 : decode cX9_strikeAt 11 = .ok (.iastore, 1) := by decide +kernel
theorem dX9_strikeAt_12 : decode cX9_strikeAt 12 = .ok (.sipush 160, 3) := by decide +kernel
theorem dX9_strikeAt_15 : decode cX9_strikeAt 15 = .ok (.iconst 3, 1) := by decide +kernel
theorem dX9_strikeAt_16 : decode cX9_strikeAt 16 = .ok (.iload_n 1, 1) := by decide +kernel
theorem dX9_strikeAt_17 : decode cX9_strikeAt 17 = .ok (.imul, 1) := by decide +kernel
theorem dX9_strikeAt_18 : decode cX9_strikeAt 18 = .ok (.iadd, 1) := by decide +kernel
theorem dX9_strikeAt_19 : decode cX9_strikeAt 19 = .ok (.istore_n 2, 1) := by decide +kernel
theorem dX9_strikeAt_20 : decode cX9_strikeAt 20 = .ok (.iload_n 2, 1) := by decide +kernel
theorem dX9_strikeAt_21 : decode cX9_strikeAt 21 = .ok (.sipush 160, 3) := by decide +kernel
theorem dX9_strikeAt_24 : decode cX9_strikeAt 24 = .ok (.iconst 3, 1) := by decide +kernel
theorem dX9_strikeAt_25 : decode cX9_strikeAt 25 = .ok (.aload_n 0, 1) := by decide +kernel
theorem dX9_strikeAt_26 : decode cX9_strikeAt 26 = .ok (.getfield 22, 3) := by decide +kernel
theorem dX9_strikeAt_29 : decode cX9_strikeAt 29 = .ok (.sipush 159, 3) := by decide +kernel
theorem dX9_strikeAt_32 : decode cX9_strikeAt 32 = .ok (.iaload, 1) := by decide +kernel
theorem dX9_strikeAt_33 : decode cX9_strikeAt 33 = .ok (.imul, 1) := by decide +kernel
theorem dX9_strikeAt_34 : decode cX9_strikeAt 34 = .ok (.iadd, 1) := by decide +kernel
theorem dX9_strikeAt_35 : decode cX9_strikeAt 35 = .ok (.if_icmp .ge 23, 3) := by decide +kernel
theorem dX9_strikeAt_38 : decode cX9_strikeAt 38 = .ok (.aload_n 0, 1) := by decide +kernel
theorem dX9_strikeAt_39 : decode cX9_strikeAt 39 = .ok (.getfield 22, 3) := by decide +kernel
theorem dX9_strikeAt_42 : decode cX9_strikeAt 42 = .ok (.iload_n 2, 1) := by decide +kernel
theorem dX9_strikeAt_43 : decode cX9_strikeAt 43 = .ok (.aload_n 0, 1) := by decide +kernel
theorem dX9_strikeAt_44 : decode cX9_strikeAt 44 = .ok (.getfield 22, 3) := by decide +kernel
theorem dX9_strikeAt_47 : decode cX9_strikeAt 47 = .ok (.iload_n 2, 1) := by decide +kernel
theorem dX9_strikeAt_48 : decode cX9_strikeAt 48 = .ok (.iconst 3, 1) := by decide +kernel
theorem dX9_strikeAt_49 : decode cX9_strikeAt 49 = .ok (.iadd, 1) := by decide +kernel
theorem dX9_strikeAt_50 : decode cX9_strikeAt 50 = .ok (.iaload, 1) := by decide +kernel
theorem dX9_strikeAt_51 : decode cX9_strikeAt 51 = .ok (.iastore, 1) := by decide +kernel
theorem dX9_strikeAt_52 : decode cX9_strikeAt 52 = .ok (.iinc 2 1, 3) := by decide +kernel
theorem dX9_strikeAt_55 : decode cX9_strikeAt 55 = .ok (.goto (-35), 3) := by decide +kernel
theorem dX9_strikeAt_58 : decode cX9_strikeAt 58 = .ok (.return_, 1) := by decide +kernel
set_option maxRecDepth 20000 in
theorem ggX9_strike_X9_in : GoodIn wsX9_strike wsX9_in := goodIn_r _ [5] (by decide +kernel) (by decide +kernel)
set_option maxRecDepth 20000 in
theorem gX9_strike_X9_in : GoodIn wsX9_strike (va_wsS RX9 55 yX9_in wsX9_in) := goodIn_app (goodIn_of _ (by decide +kernel)) ggX9_strike_X9_in
set_option maxRecDepth 20000 in
theorem ggX9_strike_X9_know : GoodIn wsX9_strike wsX9_know := goodIn_r _ [9, 10, 11, 1, 16, 17, 18, 19, 20, 21, 22, 23, 24, 25, 26, 27, 28, 29, 30, 31] (by decide +kernel) (by decide +kernel)
set_option maxRecDepth 20000 in
theorem gX9_strike_X9_know : GoodIn wsX9_strike (wsV RX9 89 RX9 yX9_know wsX9_know) := goodIn_app (goodIn_of _ (by decide +kernel)) ggX9_strike_X9_know
set_option maxRecDepth 20000 in
theorem ggX9_strike_X9_strikeAt : GoodIn wsX9_strike wsX9_strikeAt := goodIn_r _ [15, 1, 16, 17, 18, 19, 20, 21, 22, 23, 24, 25, 26, 27, 28, 29, 30, 31] (by decide +kernel) (by decide +kernel)
set_option maxRecDepth 20000 in
theorem gX9_strike_X9_strikeAt : GoodIn wsX9_strike (wsV RX9 106 RX9 yX9_strikeAt wsX9_strikeAt) := goodIn_app (goodIn_of _ (by decide +kernel)) ggX9_strike_X9_strikeAt
theorem dX9_strike_0 : decode cX9_strike 0 = .ok (.iload_n 1, 1) := by decide +kernel
theorem dX9_strike_1 : decode cX9_strike 1 = .ok (.iconst 0, 1) := by decide +kernel
theorem dX9_strike_2 : decode cX9_strike 2 = .ok (.iconst 3, 1) := by decide +kernel
theorem dX9_strike_3 : decode cX9_strike 3 = .ok (.invokestatic 55, 3) := by decide +kernel
theorem dX9_strike_6 : decode cX9_strike 6 = .ok (.ifCond .ne 5, 3) := by decide +kernel
theorem dX9_strike_9 : decode cX9_strike 9 = .ok (.iconst (-1), 1) := by decide +kernel
theorem dX9_strike_10 : decode cX9_strike 10 = .ok (.ireturn, 1) := by decide +kernel
theorem dX9_strike_11 : decode cX9_strike 11 = .ok (.iconst 0, 1) := by decide +kernel
theorem dX9_strike_12 : decode cX9_strike 12 = .ok (.istore_n 2, 1) := by decide +kernel
theorem dX9_strike_13 : decode cX9_strike 13 = .ok (.iconst 0, 1) := by decide +kernel
theorem dX9_strike_14 : decode cX9_strike 14 = .ok (.istore_n 3, 1) := by decide +kernel
theorem dX9_strike_15 : decode cX9_strike 15 = .ok (.iload_n 3, 1) := by decide +kernel
theorem dX9_strike_16 : decode cX9_strike 16 = .ok (.aload_n 0, 1) := by decide +kernel
theorem dX9_strike_17 : decode cX9_strike 17 = .ok (.getfield 22, 3) := by decide +kernel
theorem dX9_strike_20 : decode cX9_strike 20 = .ok (.sipush 159, 3) := by decide +kernel
theorem dX9_strike_23 : decode cX9_strike 23 = .ok (.iaload, 1) := by decide +kernel
theorem dX9_strike_24 : decode cX9_strike 24 = .ok (.if_icmp .ge 33, 3) := by decide +kernel
theorem dX9_strike_27 : decode cX9_strike 27 = .ok (.iload_n 2, 1) := by decide +kernel
theorem dX9_strike_28 : decode cX9_strike 28 = .ok (.aload_n 0, 1) := by decide +kernel
theorem dX9_strike_29 : decode cX9_strike 29 = .ok (.getfield 22, 3) := by decide +kernel
theorem dX9_strike_32 : decode cX9_strike 32 = .ok (.sipush 160, 3) := by decide +kernel
theorem dX9_strike_35 : decode cX9_strike 35 = .ok (.iconst 3, 1) := by decide +kernel
theorem dX9_strike_36 : decode cX9_strike 36 = .ok (.iload_n 3, 1) := by decide +kernel
theorem dX9_strike_37 : decode cX9_strike 37 = .ok (.imul, 1) := by decide +kernel
theorem dX9_strike_38 : decode cX9_strike 38 = .ok (.iadd, 1) := by decide +kernel
theorem dX9_strike_39 : decode cX9_strike 39 = .ok (.iaload, 1) := by decide +kernel
theorem dX9_strike_40 : decode cX9_strike 40 = .ok (.iload_n 1, 1) := by decide +kernel
theorem dX9_strike_41 : decode cX9_strike 41 = .ok (.if_icmp .ne 7, 3) := by decide +kernel
theorem dX9_strike_44 : decode cX9_strike 44 = .ok (.iconst 1, 1) := by decide +kernel
theorem dX9_strike_45 : decode cX9_strike 45 = .ok (.goto 4, 3) := by decide +kernel
theorem dX9_strike_48 : decode cX9_strike 48 = .ok (.iconst 0, 1) := by decide +kernel
theorem dX9_strike_49 : decode cX9_strike 49 = .ok (.iadd, 1) := by decide +kernel
theorem dX9_strike_50 : decode cX9_strike 50 = .ok (.istore_n 2, 1) := by decide +kernel
theorem dX9_strike_51 : decode cX9_strike 51 = .ok (.iinc 3 1, 3) := by decide +kernel
theorem dX9_strike_54 : decode cX9_strike 54 = .ok (.goto (-39), 3) := by decide +kernel
theorem dX9_strike_57 : decode cX9_strike 57 = .ok (.iload_n 2, 1) := by decide +kernel
theorem dX9_strike_58 : decode cX9_strike 58 = .ok (.ifCond .ne 6, 3) := by decide +kernel
theorem dX9_strike_61 : decode cX9_strike 61 = .ok (.bipush (-5), 2) := by decide +kernel
theorem dX9_strike_63 : decode cX9_strike 63 = .ok (.ireturn, 1) := by decide +kernel
theorem dX9_strike_64 : decode cX9_strike 64 = .ok (.aload_n 0, 1) := by decide +kernel
theorem dX9_strike_65 : decode cX9_strike 65 = .ok (.invokevirtual 89, 3) := by decide +kernel
theorem dX9_strike_68 : decode cX9_strike 68 = .ok (.aload_n 0, 1) := by decide +kernel
theorem dX9_strike_69 : decode cX9_strike 69 = .ok (.getfield 22, 3) := by decide +kernel
theorem dX9_strike_72 : decode cX9_strike 72 = .ok (.sipush 159, 3) := by decide +kernel
theorem dX9_strike_75 : decode cX9_strike 75 = .ok (.iaload, 1) := by decide +kernel
theorem dX9_strike_76 : decode cX9_strike 76 = .ok (.iconst 1, 1) := by decide +kernel
theorem dX9_strike_77 : decode cX9_strike 77 = .ok (.isub, 1) := by decide +kernel
theorem dX9_strike_78 : decode cX9_strike 78 = .ok (.istore_n 3, 1) := by decide +kernel
theorem dX9_strike_79 : decode cX9_strike 79 = .ok (.iload_n 3, 1) := by decide +kernel
theorem dX9_strike_80 : decode cX9_strike 80 = .ok (.ifCond .lt 30, 3) := by decide +kernel
theorem dX9_strike_83 : decode cX9_strike 83 = .ok (.aload_n 0, 1) := by decide +kernel
theorem dX9_strike_84 : decode cX9_strike 84 = .ok (.getfield 22, 3) := by decide +kernel
theorem dX9_strike_87 : decode cX9_strike 87 = .ok (.sipush 160, 3) := by decide +kernel
theorem dX9_strike_90 : decode cX9_strike 90 = .ok (.iconst 3, 1) := by decide +kernel
theorem dX9_strike_91 : decode cX9_strike 91 = .ok (.iload_n 3, 1) := by decide +kernel
theorem dX9_strike_92 : decode cX9_strike 92 = .ok (.imul, 1) := by decide +kernel
theorem dX9_strike_93 : decode cX9_strike 93 = .ok (.iadd, 1) := by decide +kernel
theorem dX9_strike_94 : decode cX9_strike 94 = .ok (.iaload, 1) := by decide +kernel
theorem dX9_strike_95 : decode cX9_strike 95 = .ok (.iload_n 1, 1) := by decide +kernel
theorem dX9_strike_96 : decode cX9_strike 96 = .ok (.if_icmp .ne 8, 3) := by decide +kernel
theorem dX9_strike_99 : decode cX9_strike 99 = .ok (.aload_n 0, 1) := by decide +kernel
theorem dX9_strike_100 : decode cX9_strike 100 = .ok (.iload_n 3, 1) := by decide +kernel
theorem dX9_strike_101 : decode cX9_strike 101 = .ok (.invokevirtual 106, 3) := by decide +kernel
theorem dX9_strike_104 : decode cX9_strike 104 = .ok (.iinc 3 (-1), 3) := by decide +kernel
theorem dX9_strike_107 : decode cX9_strike 107 = .ok (.goto (-28), 3) := by decide +kernel
theorem dX9_strike_110 : decode cX9_strike 110 = .ok (.iload_n 2, 1) := by decide +kernel
theorem dX9_strike_111 : decode cX9_strike 111 = .ok (.ireturn, 1) := by decide +kernel
set_option maxRecDepth 20000 in
theorem ggX9_play_X9_in : GoodIn wsX9_play wsX9_in := goodIn_r _ [5] (by decide +kernel) (by decide +kernel)
set_option maxRecDepth 20000 in
theorem gX9_play_X9_in : GoodIn wsX9_play (va_wsS RX9 55 yX9_in wsX9_in) := goodIn_app (goodIn_of _ (by decide +kernel)) ggX9_play_X9_in
set_option maxRecDepth 20000 in
theorem ggX9_play_X9_know : GoodIn wsX9_play wsX9_know := goodIn_r _ [9, 10, 11, 1, 51, 52, 53, 54, 55, 56, 57, 58, 59, 60, 61, 62, 63, 64, 65, 66] (by decide +kernel) (by decide +kernel)
set_option maxRecDepth 20000 in
theorem gX9_play_X9_know : GoodIn wsX9_play (wsV RX9 89 RX9 yX9_know wsX9_know) := goodIn_app (goodIn_of _ (by decide +kernel)) ggX9_play_X9_know
set_option maxRecDepth 20000 in
theorem ggX9_play_X9_bowPlace : GoodIn wsX9_play wsX9_bowPlace := goodIn_r _ [14] (by decide +kernel) (by decide +kernel)
set_option maxRecDepth 20000 in
theorem gX9_play_X9_bowPlace : GoodIn wsX9_play (va_wsS RX9 74 yX9_bowPlace wsX9_bowPlace) := goodIn_app (goodIn_of _ (by decide +kernel)) ggX9_play_X9_bowPlace
set_option maxRecDepth 20000 in
theorem ggX9_play_X9_soundsAt : GoodIn wsX9_play wsX9_soundsAt := goodIn_r _ [18, 19, 20, 21, 4, 22, 1, 23, 24, 25, 26, 27, 28, 29, 30, 31, 51, 52, 53, 54, 55, 56, 57, 58, 59, 60, 61, 62, 63, 64, 65, 66] (by decide +kernel) (by decide +kernel)
set_option maxRecDepth 20000 in
theorem gX9_play_X9_soundsAt : GoodIn wsX9_play (wsV RX9 77 RX9 yX9_soundsAt wsX9_soundsAt) := goodIn_app (goodIn_of _ (by decide +kernel)) ggX9_play_X9_soundsAt
set_option maxRecDepth 20000 in
theorem ggX9_play_X9_strikeAt : GoodIn wsX9_play wsX9_strikeAt := goodIn_r _ [35, 1, 51, 52, 53, 54, 55, 56, 57, 58, 59, 60, 61, 62, 63, 64, 65, 66] (by decide +kernel) (by decide +kernel)
set_option maxRecDepth 20000 in
theorem gX9_play_X9_strikeAt : GoodIn wsX9_play (wsV RX9 106 RX9 yX9_strikeAt wsX9_strikeAt) := goodIn_app (goodIn_of _ (by decide +kernel)) ggX9_play_X9_strikeAt
set_option maxRecDepth 20000 in
theorem ggX9_play_X9_stroke : GoodIn wsX9_play wsX9_stroke := goodIn_r _ [39, 40, 1, 27, 28, 29, 4, 30, 31, 41, 42, 43, 44, 45, 46, 47, 48, 49, 50, 2, 3, 5, 51, 52, 53, 54, 55, 56, 57, 58, 59, 60, 61, 62, 63, 64, 65, 66] (by decide +kernel) (by decide +kernel)
set_option maxRecDepth 20000 in
theorem gX9_play_X9_stroke : GoodIn wsX9_play (wsV RX9 110 RX9 yX9_stroke wsX9_stroke) := goodIn_app (goodIn_of _ (by decide +kernel)) ggX9_play_X9_stroke
end
section
theorem dX9_play_0 : decode cX9_play 0 = .ok (.iload_n 1, 1) := by decide +kernel
theorem dX9_play_1 : decode cX9_play 1 = .ok (.iconst 1, 1) := by decide +kernel
theorem dX9_play_2 : decode cX9_play 2 = .ok (.bipush 16, 2) := by decide +kernel
theorem dX9_play_4 : decode cX9_play 4 = .ok (.invokestatic 55, 3) := by decide +kernel
theorem dX9_play_7 : decode cX9_play 7 = .ok (.ifCond .ne 6, 3) := by decide +kernel
theorem dX9_play_10 : decode cX9_play 10 = .ok (.bipush (-2), 2) := by decide +kernel
theorem dX9_play_12 : decode cX9_play 12 = .ok (.ireturn, 1) := by decide +kernel
theorem dX9_play_13 : decode cX9_play 13 = .ok (.aload_n 0, 1) := by decide +kernel
theorem dX9_play_14 : decode cX9_play 14 = .ok (.getfield 22, 3) := by decide +kernel
theorem dX9_play_17 : decode cX9_play 17 = .ok (.sipush 159, 3) := by decide +kernel
theorem dX9_play_20 : decode cX9_play 20 = .ok (.iaload, 1) := by decide +kernel
theorem dX9_play_21 : decode cX9_play 21 = .ok (.ifCond .ne 6, 3) := by decide +kernel
theorem dX9_play_24 : decode cX9_play 24 = .ok (.bipush (-5), 2) := by decide +kernel
theorem dX9_play_26 : decode cX9_play 26 = .ok (.ireturn, 1) := by decide +kernel
theorem dX9_play_27 : decode cX9_play 27 = .ok (.aload_n 0, 1) := by decide +kernel
theorem dX9_play_28 : decode cX9_play 28 = .ok (.invokevirtual 89, 3) := by decide +kernel
theorem dX9_play_31 : decode cX9_play 31 = .ok (.iconst 0, 1) := by decide +kernel
theorem dX9_play_32 : decode cX9_play 32 = .ok (.istore_n 2, 1) := by decide +kernel
theorem dX9_play_33 : decode cX9_play 33 = .ok (.iconst 0, 1) := by decide +kernel
theorem dX9_play_34 : decode cX9_play 34 = .ok (.istore_n 3, 1) := by decide +kernel
theorem dX9_play_35 : decode cX9_play 35 = .ok (.iload_n 3, 1) := by decide +kernel
theorem dX9_play_36 : decode cX9_play 36 = .ok (.iload_n 1, 1) := by decide +kernel
theorem dX9_play_37 : decode cX9_play 37 = .ok (.if_icmp .ge 155, 3) := by decide +kernel
theorem dX9_play_40 : decode cX9_play 40 = .ok (.aload_n 0, 1) := by decide +kernel
theorem dX9_play_41 : decode cX9_play 41 = .ok (.getfield 22, 3) := by decide +kernel
theorem dX9_play_44 : decode cX9_play 44 = .ok (.sipush 159, 3) := by decide +kernel
theorem dX9_play_47 : decode cX9_play 47 = .ok (.iaload, 1) := by decide +kernel
theorem dX9_play_48 : decode cX9_play 48 = .ok (.ifCond .le 144, 3) := by decide +kernel
theorem dX9_play_51 : decode cX9_play 51 = .ok (.aload_n 0, 1) := by decide +kernel
theorem dX9_play_52 : decode cX9_play 52 = .ok (.aload_n 0, 1) := by decide +kernel
theorem dX9_play_53 : decode cX9_play 53 = .ok (.getfield 22, 3) := by decide +kernel
theorem dX9_play_56 : decode cX9_play 56 = .ok (.sipush 160, 3) := by decide +kernel
theorem dX9_play_59 : decode cX9_play 59 = .ok (.iaload, 1) := by decide +kernel
theorem dX9_play_60 : decode cX9_play 60 = .ok (.aload_n 0, 1) := by decide +kernel
theorem dX9_play_61 : decode cX9_play 61 = .ok (.getfield 22, 3) := by decide +kernel
theorem dX9_play_64 : decode cX9_play 64 = .ok (.sipush 161, 3) := by decide +kernel
theorem dX9_play_67 : decode cX9_play 67 = .ok (.iaload, 1) := by decide +kernel
theorem dX9_play_68 : decode cX9_play 68 = .ok (.invokestatic 74, 3) := by decide +kernel
theorem dX9_play_71 : decode cX9_play 71 = .ok (.invokevirtual 77, 3) := by decide +kernel
theorem dX9_play_74 : decode cX9_play 74 = .ok (.istore 4, 2) := by decide +kernel
theorem dX9_play_76 : decode cX9_play 76 = .ok (.aload_n 0, 1) := by decide +kernel
theorem dX9_play_77 : decode cX9_play 77 = .ok (.getfield 22, 3) := by decide +kernel
theorem dX9_play_80 : decode cX9_play 80 = .ok (.sipush 162, 3) := by decide +kernel
theorem dX9_play_83 : decode cX9_play 83 = .ok (.iaload, 1) := by decide +kernel
theorem dX9_play_84 : decode cX9_play 84 = .ok (.istore 5, 2) := by decide +kernel
theorem dX9_play_86 : decode cX9_play 86 = .ok (.aload_n 0, 1) := by decide +kernel
theorem dX9_play_87 : decode cX9_play 87 = .ok (.iconst 0, 1) := by decide +kernel
theorem dX9_play_88 : decode cX9_play 88 = .ok (.invokevirtual 106, 3) := by decide +kernel
theorem dX9_play_91 : decode cX9_play 91 = .ok (.iconst 0, 1) := by decide +kernel
theorem dX9_play_92 : decode cX9_play 92 = .ok (.istore 6, 2) := by decide +kernel
theorem dX9_play_94 : decode cX9_play 94 = .ok (.iload 6, 2) := by decide +kernel
theorem dX9_play_96 : decode cX9_play 96 = .ok (.iload 5, 2) := by decide +kernel
theorem dX9_play_98 : decode cX9_play 98 = .ok (.if_icmp .ge 22, 3) := by decide +kernel
theorem dX9_play_101 : decode cX9_play 101 = .ok (.iload 4, 2) := by decide +kernel
theorem dX9_play_103 : decode cX9_play 103 = .ok (.bipush (-5), 2) := by decide +kernel
theorem dX9_play_105 : decode cX9_play 105 = .ok (.if_icmp .eq 15, 3) := by decide +kernel
theorem dX9_play_108 : decode cX9_play 108 = .ok (.aload_n 0, 1) := by decide +kernel
theorem dX9_play_109 : decode cX9_play 109 = .ok (.iload 4, 2) := by decide +kernel
theorem dX9_play_111 : decode cX9_play 111 = .ok (.invokevirtual 110, 3) := by decide +kernel
theorem dX9_play_114 : decode cX9_play 114 = .ok (.iinc 6 1, 3) := by decide +kernel
theorem dX9_play_117 : decode cX9_play 117 = .ok (.goto (-23), 3) := by decide +kernel
theorem dX9_play_120 : decode cX9_play 120 = .ok (.aload_n 0, 1) := by decide +kernel
theorem dX9_play_121 : decode cX9_play 121 = .ok (.getfield 22, 3) := by decide +kernel
theorem dX9_play_124 : decode cX9_play 124 = .ok (.sipush 152, 3) := by decide +kernel
theorem dX9_play_127 : decode cX9_play 127 = .ok (.dup2, 1) := by decide +kernel
theorem dX9_play_128 : decode cX9_play 128 = .ok (.iaload, 1) := by decide +kernel
theorem dX9_play_129 : decode cX9_play 129 = .ok (.iload 4, 2) := by decide +kernel
theorem dX9_play_131 : decode cX9_play 131 = .ok (.bipush (-5), 2) := by decide +kernel
theorem dX9_play_133 : decode cX9_play 133 = .ok (.if_icmp .ne 7, 3) := by decide +kernel
theorem dX9_play_136 : decode cX9_play 136 = .ok (.iconst 1, 1) := by decide +kernel
theorem dX9_play_137 : decode cX9_play 137 = .ok (.goto 4, 3) := by decide +kernel
theorem dX9_play_140 : decode cX9_play 140 = .ok (.iconst 0, 1) := by decide +kernel
theorem dX9_play_141 : decode cX9_play 141 = .ok (.iadd, 1) := by decide +kernel
theorem dX9_play_142 : decode cX9_play 142 = .ok (.iastore, 1) := by decide +kernel
theorem dX9_play_143 : decode cX9_play 143 = .ok (.aload_n 0, 1) := by decide +kernel
theorem dX9_play_144 : decode cX9_play 144 = .ok (.getfield 22, 3) := by decide +kernel
theorem dX9_play_147 : decode cX9_play 147 = .ok (.sipush 153, 3) := by decide +kernel
theorem dX9_play_150 : decode cX9_play 150 = .ok (.iload 4, 2) := by decide +kernel
theorem dX9_play_152 : decode cX9_play 152 = .ok (.bipush (-5), 2) := by decide +kernel
theorem dX9_play_154 : decode cX9_play 154 = .ok (.if_icmp .ne 14, 3) := by decide +kernel
theorem dX9_play_157 : decode cX9_play 157 = .ok (.aload_n 0, 1) := by decide +kernel
theorem dX9_play_158 : decode cX9_play 158 = .ok (.getfield 22, 3) := by decide +kernel
theorem dX9_play_161 : decode cX9_play 161 = .ok (.sipush 153, 3) := by decide +kernel
theorem dX9_play_164 : decode cX9_play 164 = .ok (.iaload, 1) := by decide +kernel
theorem dX9_play_165 : decode cX9_play 165 = .ok (.goto 5, 3) := by decide +kernel
theorem dX9_play_168 : decode cX9_play 168 = .ok (.iload 4, 2) := by decide +kernel
theorem dX9_play_170 : decode cX9_play 170 = .ok (.iastore, 1) := by decide +kernel
theorem dX9_play_171 : decode cX9_play 171 = .ok (.iload_n 2, 1) := by decide +kernel
theorem dX9_play_172 : decode cX9_play 172 = .ok (.iload 4, 2) := by decide +kernel
theorem dX9_play_174 : decode cX9_play 174 = .ok (.bipush (-5), 2) := by decide +kernel
theorem dX9_play_176 : decode cX9_play 176 = .ok (.if_icmp .ne 7, 3) := by decide +kernel
theorem dX9_play_179 : decode cX9_play 179 = .ok (.iconst 0, 1) := by decide +kernel
theorem dX9_play_180 : decode cX9_play 180 = .ok (.goto 4, 3) := by decide +kernel
theorem dX9_play_183 : decode cX9_play 183 = .ok (.iconst 1, 1) := by decide +kernel
theorem dX9_play_184 : decode cX9_play 184 = .ok (.iadd, 1) := by decide +kernel
theorem dX9_play_185 : decode cX9_play 185 = .ok (.istore_n 2, 1) := by decide +kernel
theorem dX9_play_186 : decode cX9_play 186 = .ok (.iinc 3 1, 3) := by decide +kernel
theorem dX9_play_189 : decode cX9_play 189 = .ok (.goto (-154), 3) := by decide +kernel
theorem dX9_play_192 : decode cX9_play 192 = .ok (.iload_n 2, 1) := by decide +kernel
theorem dX9_play_193 : decode cX9_play 193 = .ok (.ireturn, 1) := by decide +kernel
theorem dX9_type_0 : decode cX9_type 0 = .ok (.aload_n 0, 1) := by decide +kernel
theorem dX9_type_1 : decode cX9_type 1 = .ok (.getfield 113, 3) := by decide +kernel
theorem dX9_type_4 : decode cX9_type 4 = .ok (.bipush 60, 2) := by decide +kernel
theorem dX9_type_6 : decode cX9_type 6 = .ok (.if_icmp .ne 6, 3) := by decide +kernel
theorem dX9_type_9 : decode cX9_type 9 = .ok (.bipush (-3), 2) := by decide +kernel
theorem dX9_type_11 : decode cX9_type 11 = .ok (.ireturn, 1) := by decide +kernel
theorem dX9_type_12 : decode cX9_type 12 = .ok (.aload_n 0, 1) := by decide +kernel
theorem dX9_type_13 : decode cX9_type 13 = .ok (.getfield 31, 3) := by decide +kernel
theorem dX9_type_16 : decode cX9_type 16 = .ok (.aload_n 0, 1) := by decide +kernel
theorem dX9_type_17 : decode cX9_type 17 = .ok (.getfield 113, 3) := by decide +kernel
theorem dX9_type_20 : decode cX9_type 20 = .ok (.iload_n 1, 1) := by decide +kernel
theorem dX9_type_21 : decode cX9_type 21 = .ok (.iastore, 1) := by decide +kernel
theorem dX9_type_22 : decode cX9_type 22 = .ok (.aload_n 0, 1) := by decide +kernel
theorem dX9_type_23 : decode cX9_type 23 = .ok (.dup, 1) := by decide +kernel
theorem dX9_type_24 : decode cX9_type 24 = .ok (.getfield 113, 3) := by decide +kernel
theorem dX9_type_27 : decode cX9_type 27 = .ok (.iconst 1, 1) := by decide +kernel
theorem dX9_type_28 : decode cX9_type 28 = .ok (.iadd, 1) := by decide +kernel
theorem dX9_type_29 : decode cX9_type 29 = .ok (.putfield 113, 3) := by decide +kernel
theorem dX9_type_32 : decode cX9_type 32 = .ok (.aload_n 0, 1) := by decide +kernel
theorem dX9_type_33 : decode cX9_type 33 = .ok (.getfield 113, 3) := by decide +kernel
theorem dX9_type_36 : decode cX9_type 36 = .ok (.ireturn, 1) := by decide +kernel
theorem dX9_clearText_0 : decode cX9_clearText 0 = .ok (.aload_n 0, 1) := by decide +kernel
theorem dX9_clearText_1 : decode cX9_clearText 1 = .ok (.getfield 113, 3) := by decide +kernel
theorem dX9_clearText_4 : decode cX9_clearText 4 = .ok (.istore_n 1, 1) := by decide +kernel
theorem dX9_clearText_5 : decode cX9_clearText 5 = .ok (.aload_n 0, 1) := by decide +kernel
theorem dX9_clearText_6 : decode cX9_clearText 6 = .ok (.iconst 0, 1) := by decide +kernel
theorem dX9_clearText_7 : decode cX9_clearText 7 = .ok (.putfield 113, 3) := by decide +kernel
theorem dX9_clearText_10 : decode cX9_clearText 10 = .ok (.iload_n 1, 1) := by decide +kernel
theorem dX9_clearText_11 : decode cX9_clearText 11 = .ok (.ireturn, 1) := by decide +kernel
set_option maxRecDepth 20000 in
theorem ggX9_sign_X9_in : GoodIn wsX9_sign wsX9_in := goodIn_r _ [8] (by decide +kernel) (by decide +kernel)
set_option maxRecDepth 20000 in
theorem gX9_sign_X9_in : GoodIn wsX9_sign (va_wsS RX9 55 yX9_in wsX9_in) := goodIn_app (goodIn_of _ (by decide +kernel)) ggX9_sign_X9_in
theorem dX9_sign_0 : decode cX9_sign 0 = .ok (.aload_n 0, 1) := by decide +kernel
theorem dX9_sign_1 : decode cX9_sign 1 = .ok (.getfield 116, 3) := by decide +kernel
theorem dX9_sign_4 : decode cX9_sign 4 = .ok (.aload_n 0, 1) := by decide +kernel
theorem dX9_sign_5 : decode cX9_sign 5 = .ok (.getfield 113, 3) := by decide +kernel
theorem dX9_sign_8 : decode cX9_sign 8 = .ok (.if_icmp .ge 15, 3) := by decide +kernel
theorem dX9_sign_11 : decode cX9_sign 11 = .ok (.aload_n 0, 1) := by decide +kernel
theorem dX9_sign_12 : decode cX9_sign 12 = .ok (.getfield 31, 3) := by decide +kernel
theorem dX9_sign_15 : decode cX9_sign 15 = .ok (.aload_n 0, 1) := by decide +kernel
theorem dX9_sign_16 : decode cX9_sign 16 = .ok (.getfield 116, 3) := by decide +kernel
theorem dX9_sign_19 : decode cX9_sign 19 = .ok (.iaload, 1) := by decide +kernel
theorem dX9_sign_20 : decode cX9_sign 20 = .ok (.goto 4, 3) := by decide +kernel
theorem dX9_sign_23 : decode cX9_sign 23 = .ok (.iconst 0, 1) := by decide +kernel
theorem dX9_sign_24 : decode cX9_sign 24 = .ok (.istore_n 3, 1) := by decide +kernel
theorem dX9_sign_25 : decode cX9_sign 25 = .ok (.aload_n 0, 1) := by decide +kernel
theorem dX9_sign_26 : decode cX9_sign 26 = .ok (.aload_n 0, 1) := by decide +kernel
theorem dX9_sign_27 : decode cX9_sign 27 = .ok (.getfield 119, 3) := by decide +kernel
theorem dX9_sign_30 : decode cX9_sign 30 = .ok (.ifCond .ne 12, 3) := by decide +kernel
theorem dX9_sign_33 : decode cX9_sign 33 = .ok (.iload_n 3, 1) := by decide +kernel
theorem dX9_sign_34 : decode cX9_sign 34 = .ok (.iload_n 1, 1) := by decide +kernel
theorem dX9_sign_35 : decode cX9_sign 35 = .ok (.iload_n 2, 1) := by decide +kernel
theorem dX9_sign_36 : decode cX9_sign 36 = .ok (.invokestatic 55, 3) := by decide +kernel
theorem dX9_sign_39 : decode cX9_sign 39 = .ok (.ifCond .ne 7, 3) := by decide +kernel
theorem dX9_sign_42 : decode cX9_sign 42 = .ok (.iconst 1, 1) := by decide +kernel
theorem dX9_sign_43 : decode cX9_sign 43 = .ok (.goto 4, 3) := by decide +kernel
theorem dX9_sign_46 : decode cX9_sign 46 = .ok (.iconst 0, 1) := by decide +kernel
theorem dX9_sign_47 : decode cX9_sign 47 = .ok (.putfield 119, 3) := by decide +kernel
theorem dX9_sign_50 : decode cX9_sign 50 = .ok (.aload_n 0, 1) := by decide +kernel
theorem dX9_sign_51 : decode cX9_sign 51 = .ok (.dup, 1) := by decide +kernel
theorem dX9_sign_52 : decode cX9_sign 52 = .ok (.getfield 116, 3) := by decide +kernel
theorem dX9_sign_55 : decode cX9_sign 55 = .ok (.aload_n 0, 1) := by decide +kernel
theorem dX9_sign_56 : decode cX9_sign 56 = .ok (.getfield 119, 3) := by decide +kernel
theorem dX9_sign_59 : decode cX9_sign 59 = .ok (.ifCond .eq 7, 3) := by decide +kernel
theorem dX9_sign_62 : decode cX9_sign 62 = .ok (.iconst 0, 1) := by decide +kernel
theorem dX9_sign_63 : decode cX9_sign 63 = .ok (.goto 4, 3) := by decide +kernel
theorem dX9_sign_66 : decode cX9_sign 66 = .ok (.iconst 1, 1) := by decide +kernel
theorem dX9_sign_67 : decode cX9_sign 67 = .ok (.iadd, 1) := by decide +kernel
theorem dX9_sign_68 : decode cX9_sign 68 = .ok (.putfield 116, 3) := by decide +kernel
theorem dX9_sign_71 : decode cX9_sign 71 = .ok (.iload_n 3, 1) := by decide +kernel
theorem dX9_sign_72 : decode cX9_sign 72 = .ok (.ireturn, 1) := by decide +kernel
set_option maxRecDepth 20000 in
theorem ggX9_number_X9_sign : GoodIn wsX9_number wsX9_sign := goodIn_r _ [9, 2, 3, 4, 1, 10, 11, 8, 12, 13, 14, 15, 16, 17, 18, 19, 20, 21, 22, 23, 24, 25, 26, 27, 28] (by decide +kernel) (by decide +kernel)
set_option maxRecDepth 20000 in
theorem gX9_number_X9_sign : GoodIn wsX9_number (wsV RX9 123 RX9 yX9_sign wsX9_sign) := goodIn_app (goodIn_of _ (by decide +kernel)) ggX9_number_X9_sign
set_option maxRecDepth 20000 in
theorem ggX9_number_X9_in : GoodIn wsX9_number wsX9_in := goodIn_r _ [12] (by decide +kernel) (by decide +kernel)
set_option maxRecDepth 20000 in
theorem gX9_number_X9_in : GoodIn wsX9_number (va_wsS RX9 55 yX9_in wsX9_in) := goodIn_app (goodIn_of _ (by decide +kernel)) ggX9_number_X9_in
theorem dX9_number_0 : decode cX9_number 0 = .ok (.aload_n 0, 1) := by decide +kernel
theorem dX9_number_1 : decode cX9_number 1 = .ok (.bipush 48, 2) := by decide +kernel
theorem dX9_number_3 : decode cX9_number 3 = .ok (.iload_n 1, 1) := by decide +kernel
theorem dX9_number_4 : decode cX9_number 4 = .ok (.iadd, 1) := by decide +kernel
theorem dX9_number_5 : decode cX9_number 5 = .ok (.bipush 57, 2) := by decide +kernel
theorem dX9_number_7 : decode cX9_number 7 = .ok (.invokevirtual 123, 3) := by decide +kernel
theorem dX9_number_10 : decode cX9_number 10 = .ok (.bipush 48, 2) := by decide +kernel
theorem dX9_number_12 : decode cX9_number 12 = .ok (.isub, 1) := by decide +kernel
theorem dX9_number_13 : decode cX9_number 13 = .ok (.istore_n 3, 1) := by decide +kernel
theorem dX9_number_14 : decode cX9_number 14 = .ok (.aload_n 0, 1) := by decide +kernel
theorem dX9_number_15 : decode cX9_number 15 = .ok (.getfield 119, 3) := by decide +kernel
theorem dX9_number_18 : decode cX9_number 18 = .ok (.ifCond .ne 62, 3) := by decide +kernel
theorem dX9_number_21 : decode cX9_number 21 = .ok (.iload_n 3, 1) := by decide +kernel
theorem dX9_number_22 : decode cX9_number 22 = .ok (.ifCond .le 58, 3) := by decide +kernel
theorem dX9_number_25 : decode cX9_number 25 = .ok (.aload_n 0, 1) := by decide +kernel
theorem dX9_number_26 : decode cX9_number 26 = .ok (.getfield 116, 3) := by decide +kernel
theorem dX9_number_29 : decode cX9_number 29 = .ok (.aload_n 0, 1) := by decide +kernel
theorem dX9_number_30 : decode cX9_number 30 = .ok (.getfield 113, 3) := by decide +kernel
theorem dX9_number_33 : decode cX9_number 33 = .ok (.if_icmp .ge 47, 3) := by decide +kernel
theorem dX9_number_36 : decode cX9_number 36 = .ok (.aload_n 0, 1) := by decide +kernel
theorem dX9_number_37 : decode cX9_number 37 = .ok (.getfield 31, 3) := by decide +kernel
theorem dX9_number_40 : decode cX9_number 40 = .ok (.aload_n 0, 1) := by decide +kernel
theorem dX9_number_41 : decode cX9_number 41 = .ok (.getfield 116, 3) := by decide +kernel
theorem dX9_number_44 : decode cX9_number 44 = .ok (.iaload, 1) := by decide +kernel
theorem dX9_number_45 : decode cX9_number 45 = .ok (.bipush 48, 2) := by decide +kernel
theorem dX9_number_47 : decode cX9_number 47 = .ok (.bipush 57, 2) := by decide +kernel
theorem dX9_number_49 : decode cX9_number 49 = .ok (.invokestatic 55, 3) := by decide +kernel
theorem dX9_number_52 : decode cX9_number 52 = .ok (.ifCond .eq 28, 3) := by decide +kernel
theorem dX9_number_55 : decode cX9_number 55 = .ok (.bipush 10, 2) := by decide +kernel
theorem dX9_number_57 : decode cX9_number 57 = .ok (.iload_n 3, 1) := by decide +kernel
theorem dX9_number_58 : decode cX9_number 58 = .ok (.imul, 1) := by decide +kernel
theorem dX9_number_59 : decode cX9_number 59 = .ok (.aload_n 0, 1) := by decide +kernel
theorem dX9_number_60 : decode cX9_number 60 = .ok (.getfield 31, 3) := by decide +kernel
theorem dX9_number_63 : decode cX9_number 63 = .ok (.aload_n 0, 1) := by decide +kernel
theorem dX9_number_64 : decode cX9_number 64 = .ok (.getfield 116, 3) := by decide +kernel
theorem dX9_number_67 : decode cX9_number 67 = .ok (.iaload, 1) := by decide +kernel
theorem dX9_number_68 : decode cX9_number 68 = .ok (.iadd, 1) := by decide +kernel
theorem dX9_number_69 : decode cX9_number 69 = .ok (.bipush 48, 2) := by decide +kernel
theorem dX9_number_71 : decode cX9_number 71 = .ok (.isub, 1) := by decide +kernel
theorem dX9_number_72 : decode cX9_number 72 = .ok (.iload_n 2, 1) := by decide +kernel
theorem dX9_number_73 : decode cX9_number 73 = .ok (.if_icmp .gt 7, 3) := by decide +kernel
theorem dX9_number_76 : decode cX9_number 76 = .ok (.iconst 1, 1) := by decide +kernel
theorem dX9_number_77 : decode cX9_number 77 = .ok (.goto 4, 3) := by decide +kernel
theorem dX9_number_80 : decode cX9_number 80 = .ok (.iconst 0, 1) := by decide +kernel
theorem dX9_number_81 : decode cX9_number 81 = .ok (.istore 4, 2) := by decide +kernel
theorem dX9_number_83 : decode cX9_number 83 = .ok (.iload 4, 2) := by decide +kernel
theorem dX9_number_85 : decode cX9_number 85 = .ok (.ifCond .eq 22, 3) := by decide +kernel
theorem dX9_number_88 : decode cX9_number 88 = .ok (.bipush 10, 2) := by decide +kernel
theorem dX9_number_90 : decode cX9_number 90 = .ok (.iload_n 3, 1) := by decide +kernel
theorem dX9_number_91 : decode cX9_number 91 = .ok (.imul, 1) := by decide +kernel
theorem dX9_number_92 : decode cX9_number 92 = .ok (.aload_n 0, 1) := by decide +kernel
theorem dX9_number_93 : decode cX9_number 93 = .ok (.bipush 48, 2) := by decide +kernel
theorem dX9_number_95 : decode cX9_number 95 = .ok (.bipush 57, 2) := by decide +kernel
theorem dX9_number_97 : decode cX9_number 97 = .ok (.invokevirtual 123, 3) := by decide +kernel
theorem dX9_number_100 : decode cX9_number 100 = .ok (.iadd, 1) := by decide +kernel
theorem dX9_number_101 : decode cX9_number 101 = .ok (.bipush 48, 2) := by decide +kernel
theorem dX9_number_103 : decode cX9_number 103 = .ok (.isub, 1) := by decide +kernel
theorem dX9_number_104 : decode cX9_number 104 = .ok (.goto 4, 3) := by decide +kernel
theorem dX9_number_107 : decode cX9_number 107 = .ok (.iload_n 3, 1) := by decide +kernel
theorem dX9_number_108 : decode cX9_number 108 = .ok (.ireturn, 1) := by decide +kernel
set_option maxRecDepth 20000 in
theorem ggX9_go_X9_number : GoodIn wsX9_go wsX9_number := goodIn_r _ [9, 2, 1, 3, 4, 10, 11, 12, 8, 13, 14, 15, 16, 22, 23, 24, 25, 26, 27, 28, 29, 30, 31, 32, 33, 34, 35, 36, 37] (by decide +kernel) (by decide +kernel)
set_option maxRecDepth 20000 in
theorem gX9_go_X9_number : GoodIn wsX9_go (wsV RX9 126 RX9 yX9_number wsX9_number) := goodIn_app (goodIn_of _ (by decide +kernel)) ggX9_go_X9_number
set_option maxRecDepth 20000 in
theorem ggX9_go_X9_sign : GoodIn wsX9_go wsX9_sign := goodIn_r _ [13, 1, 3, 4, 2, 14, 15, 8, 16, 22, 23, 24, 25, 26, 27, 28, 29, 30, 31, 32, 33, 34, 35, 36, 37] (by decide +kernel) (by decide +kernel)
set_option maxRecDepth 20000 in
theorem gX9_go_X9_sign : GoodIn wsX9_go (wsV RX9 123 RX9 yX9_sign wsX9_sign) := goodIn_app (goodIn_of _ (by decide +kernel)) ggX9_go_X9_sign
set_option maxRecDepth 20000 in
theorem ggX9_go_X9_waits : GoodIn wsX9_go wsX9_waits := goodIn_r _ [20, 21, 22, 23, 24, 25, 26, 27, 28, 29, 30, 31, 32, 33, 34, 35, 36, 37] (by decide +kernel) (by decide +kernel)
set_option maxRecDepth 20000 in
theorem gX9_go_X9_waits : GoodIn wsX9_go (wsV RX9 102 RX9 yX9_waits wsX9_waits) := goodIn_app (goodIn_of _ (by decide +kernel)) ggX9_go_X9_waits
theorem dX9_go_0 : decode cX9_go 0 = .ok (.aload_n 0, 1) := by decide +kernel
theorem dX9_go_1 : decode cX9_go 1 = .ok (.iconst 0, 1) := by decide +kernel
theorem dX9_go_2 : decode cX9_go 2 = .ok (.putfield 116, 3) := by decide +kernel
theorem dX9_go_5 : decode cX9_go 5 = .ok (.aload_n 0, 1) := by decide +kernel
theorem dX9_go_6 : decode cX9_go 6 = .ok (.iconst 0, 1) := by decide +kernel
theorem dX9_go_7 : decode cX9_go 7 = .ok (.putfield 119, 3) := by decide +kernel
theorem dX9_go_10 : decode cX9_go 10 = .ok (.iconst 0, 1) := by decide +kernel
theorem dX9_go_11 : decode cX9_go 11 = .ok (.istore_n 2, 1) := by decide +kernel
theorem dX9_go_12 : decode cX9_go 12 = .ok (.iconst 1, 1) := by decide +kernel
theorem dX9_go_13 : decode cX9_go 13 = .ok (.istore_n 3, 1) := by decide +kernel
theorem dX9_go_14 : decode cX9_go 14 = .ok (.iload_n 3, 1) := by decide +kernel
theorem dX9_go_15 : decode cX9_go 15 = .ok (.ifCond .eq 279, 3) := by decide +kernel
theorem dX9_go_18 : decode cX9_go 18 = .ok (.aload_n 0, 1) := by decide +kernel
theorem dX9_go_19 : decode cX9_go 19 = .ok (.getfield 116, 3) := by decide +kernel
theorem dX9_go_22 : decode cX9_go 22 = .ok (.aload_n 0, 1) := by decide +kernel
theorem dX9_go_23 : decode cX9_go 23 = .ok (.getfield 113, 3) := by decide +kernel
theorem dX9_go_26 : decode cX9_go 26 = .ok (.if_icmp .ge 15, 3) := by decide +kernel
theorem dX9_go_29 : decode cX9_go 29 = .ok (.aload_n 0, 1) := by decide +kernel
theorem dX9_go_30 : decode cX9_go 30 = .ok (.getfield 31, 3) := by decide +kernel
theorem dX9_go_33 : decode cX9_go 33 = .ok (.aload_n 0, 1) := by decide +kernel
theorem dX9_go_34 : decode cX9_go 34 = .ok (.getfield 116, 3) := by decide +kernel
theorem dX9_go_37 : decode cX9_go 37 = .ok (.iaload, 1) := by decide +kernel
theorem dX9_go_38 : decode cX9_go 38 = .ok (.goto 4, 3) := by decide +kernel
theorem dX9_go_41 : decode cX9_go 41 = .ok (.iconst 0, 1) := by decide +kernel
theorem dX9_go_42 : decode cX9_go 42 = .ok (.istore 4, 2) := by decide +kernel
theorem dX9_go_44 : decode cX9_go 44 = .ok (.iload 4, 2) := by decide +kernel
theorem dX9_go_46 : decode cX9_go 46 = .ok (.bipush 116, 2) := by decide +kernel
theorem dX9_go_48 : decode cX9_go 48 = .ok (.if_icmp .ne 7, 3) := by decide +kernel
theorem dX9_go_51 : decode cX9_go 51 = .ok (.iconst 0, 1) := by decide +kernel
theorem dX9_go_52 : decode cX9_go 52 = .ok (.goto 38, 3) := by decide +kernel
theorem dX9_go_55 : decode cX9_go 55 = .ok (.iload 4, 2) := by decide +kernel
theorem dX9_go_57 : decode cX9_go 57 = .ok (.bipush 114, 2) := by decide +kernel
theorem dX9_go_59 : decode cX9_go 59 = .ok (.if_icmp .ne 7, 3) := by decide +kernel
theorem dX9_go_62 : decode cX9_go 62 = .ok (.iconst 1, 1) := by decide +kernel
theorem dX9_go_63 : decode cX9_go 63 = .ok (.goto 27, 3) := by decide +kernel
theorem dX9_go_66 : decode cX9_go 66 = .ok (.iload 4, 2) := by decide +kernel
theorem dX9_go_68 : decode cX9_go 68 = .ok (.bipush 98, 2) := by decide +kernel
theorem dX9_go_70 : decode cX9_go 70 = .ok (.if_icmp .ne 7, 3) := by decide +kernel
theorem dX9_go_73 : decode cX9_go 73 = .ok (.iconst 2, 1) := by decide +kernel
theorem dX9_go_74 : decode cX9_go 74 = .ok (.goto 16, 3) := by decide +kernel
theorem dX9_go_77 : decode cX9_go 77 = .ok (.iload 4, 2) := by decide +kernel
theorem dX9_go_79 : decode cX9_go 79 = .ok (.bipush 108, 2) := by decide +kernel
theorem dX9_go_81 : decode cX9_go 81 = .ok (.if_icmp .ne 7, 3) := by decide +kernel
theorem dX9_go_84 : decode cX9_go 84 = .ok (.iconst 3, 1) := by decide +kernel
theorem dX9_go_85 : decode cX9_go 85 = .ok (.goto 5, 3) := by decide +kernel
theorem dX9_go_88 : decode cX9_go 88 = .ok (.bipush (-5), 2) := by decide +kernel
theorem dX9_go_90 : decode cX9_go 90 = .ok (.istore 5, 2) := by decide +kernel
theorem dX9_go_92 : decode cX9_go 92 = .ok (.aload_n 0, 1) := by decide +kernel
theorem dX9_go_93 : decode cX9_go 93 = .ok (.aload_n 0, 1) := by decide +kernel
theorem dX9_go_94 : decode cX9_go 94 = .ok (.getfield 119, 3) := by decide +kernel
theorem dX9_go_97 : decode cX9_go 97 = .ok (.ifCond .ne 10, 3) := by decide +kernel
theorem dX9_go_100 : decode cX9_go 100 = .ok (.iload 5, 2) := by decide +kernel
theorem dX9_go_102 : decode cX9_go 102 = .ok (.bipush (-5), 2) := by decide +kernel
theorem dX9_go_104 : decode cX9_go 104 = .ok (.if_icmp .ne 7, 3) := by decide +kernel
theorem dX9_go_107 : decode cX9_go 107 = .ok (.iconst 1, 1) := by decide +kernel
theorem dX9_go_108 : decode cX9_go 108 = .ok (.goto 4, 3) := by decide +kernel
theorem dX9_go_111 : decode cX9_go 111 = .ok (.iconst 0, 1) := by decide +kernel
theorem dX9_go_112 : decode cX9_go 112 = .ok (.putfield 119, 3) := by decide +kernel
theorem dX9_go_115 : decode cX9_go 115 = .ok (.aload_n 0, 1) := by decide +kernel
theorem dX9_go_116 : decode cX9_go 116 = .ok (.dup, 1) := by decide +kernel
theorem dX9_go_117 : decode cX9_go 117 = .ok (.getfield 116, 3) := by decide +kernel
theorem dX9_go_120 : decode cX9_go 120 = .ok (.aload_n 0, 1) := by decide +kernel
theorem dX9_go_121 : decode cX9_go 121 = .ok (.getfield 119, 3) := by decide +kernel
theorem dX9_go_124 : decode cX9_go 124 = .ok (.ifCond .eq 7, 3) := by decide +kernel
theorem dX9_go_127 : decode cX9_go 127 = .ok (.iconst 0, 1) := by decide +kernel
theorem dX9_go_128 : decode cX9_go 128 = .ok (.goto 4, 3) := by decide +kernel
theorem dX9_go_131 : decode cX9_go 131 = .ok (.iconst 1, 1) := by decide +kernel
theorem dX9_go_132 : decode cX9_go 132 = .ok (.iadd, 1) := by decide +kernel
theorem dX9_go_133 : decode cX9_go 133 = .ok (.putfield 116, 3) := by decide +kernel
theorem dX9_go_136 : decode cX9_go 136 = .ok (.aload_n 0, 1) := by decide +kernel
theorem dX9_go_137 : decode cX9_go 137 = .ok (.iconst 0, 1) := by decide +kernel
theorem dX9_go_138 : decode cX9_go 138 = .ok (.bipush 11, 2) := by decide +kernel
theorem dX9_go_140 : decode cX9_go 140 = .ok (.invokevirtual 126, 3) := by decide +kernel
theorem dX9_go_143 : decode cX9_go 143 = .ok (.istore 6, 2) := by decide +kernel
theorem dX9_go_145 : decode cX9_go 145 = .ok (.aload_n 0, 1) := by decide +kernel
theorem dX9_go_146 : decode cX9_go 146 = .ok (.getfield 119, 3) := by decide +kernel
theorem dX9_go_149 : decode cX9_go 149 = .ok (.ifCond .ne 32, 3) := by decide +kernel
theorem dX9_go_152 : decode cX9_go 152 = .ok (.aload_n 0, 1) := by decide +kernel
theorem dX9_go_153 : decode cX9_go 153 = .ok (.getfield 116, 3) := by decide +kernel
theorem dX9_go_156 : decode cX9_go 156 = .ok (.aload_n 0, 1) := by decide +kernel
theorem dX9_go_157 : decode cX9_go 157 = .ok (.getfield 113, 3) := by decide +kernel
theorem dX9_go_160 : decode cX9_go 160 = .ok (.if_icmp .ge 21, 3) := by decide +kernel
theorem dX9_go_163 : decode cX9_go 163 = .ok (.aload_n 0, 1) := by decide +kernel
theorem dX9_go_164 : decode cX9_go 164 = .ok (.getfield 31, 3) := by decide +kernel
theorem dX9_go_167 : decode cX9_go 167 = .ok (.aload_n 0, 1) := by decide +kernel
theorem dX9_go_168 : decode cX9_go 168 = .ok (.getfield 116, 3) := by decide +kernel
theorem dX9_go_171 : decode cX9_go 171 = .ok (.iaload, 1) := by decide +kernel
theorem dX9_go_172 : decode cX9_go 172 = .ok (.bipush 120, 2) := by decide +kernel
theorem dX9_go_174 : decode cX9_go 174 = .ok (.if_icmp .ne 7, 3) := by decide +kernel
theorem dX9_go_177 : decode cX9_go 177 = .ok (.iconst 1, 1) := by decide +kernel
theorem dX9_go_178 : decode cX9_go 178 = .ok (.goto 4, 3) := by decide +kernel
theorem dX9_go_181 : decode cX9_go 181 = .ok (.iconst 0, 1) := by decide +kernel
theorem dX9_go_182 : decode cX9_go 182 = .ok (.istore 7, 2) := by decide +kernel
theorem dX9_go_184 : decode cX9_go 184 = .ok (.iload 7, 2) := by decide +kernel
theorem dX9_go_186 : decode cX9_go 186 = .ok (.ifCond .eq 14, 3) := by decide +kernel
theorem dX9_go_189 : decode cX9_go 189 = .ok (.aload_n 0, 1) := by decide +kernel
theorem dX9_go_190 : decode cX9_go 190 = .ok (.bipush 120, 2) := by decide +kernel
theorem dX9_go_192 : decode cX9_go 192 = .ok (.bipush 120, 2) := by decide +kernel
theorem dX9_go_194 : decode cX9_go 194 = .ok (.invokevirtual 123, 3) := by decide +kernel
theorem dX9_go_197 : decode cX9_go 197 = .ok (.goto 4, 3) := by decide +kernel
theorem dX9_go_200 : decode cX9_go 200 = .ok (.iconst 0, 1) := by decide +kernel
theorem dX9_go_201 : decode cX9_go 201 = .ok (.istore 8, 2) := by decide +kernel
theorem dX9_go_203 : decode cX9_go 203 = .ok (.iload 7, 2) := by decide +kernel
theorem dX9_go_205 : decode cX9_go 205 = .ok (.ifCond .eq 13, 3) := by decide +kernel
theorem dX9_go_208 : decode cX9_go 208 = .ok (.aload_n 0, 1) := by decide +kernel
theorem dX9_go_209 : decode cX9_go 209 = .ok (.iconst 1, 1) := by decide +kernel
theorem dX9_go_210 : decode cX9_go 210 = .ok (.bipush 20, 2) := by decide +kernel
theorem dX9_go_212 : decode cX9_go 212 = .ok (.invokevirtual 126, 3) := by decide +kernel
theorem dX9_go_215 : decode cX9_go 215 = .ok (.goto 4, 3) := by decide +kernel
theorem dX9_go_218 : decode cX9_go 218 = .ok (.iconst 1, 1) := by decide +kernel
theorem dX9_go_219 : decode cX9_go 219 = .ok (.istore 9, 2) := by decide +kernel
theorem dX9_go_221 : decode cX9_go 221 = .ok (.iload_n 1, 1) := by decide +kernel
theorem dX9_go_222 : decode cX9_go 222 = .ok (.ifCond .eq 15, 3) := by decide +kernel
theorem dX9_go_225 : decode cX9_go 225 = .ok (.aload_n 0, 1) := by decide +kernel
theorem dX9_go_226 : decode cX9_go 226 = .ok (.iload 5, 2) := by decide +kernel
theorem dX9_go_228 : decode cX9_go 228 = .ok (.iload 6, 2) := by decide +kernel
theorem dX9_go_230 : decode cX9_go 230 = .ok (.iload 9, 2) := by decide +kernel
theorem dX9_go_232 : decode cX9_go 232 = .ok (.invokevirtual 102, 3) := by decide +kernel
theorem dX9_go_235 : decode cX9_go 235 = .ok (.istore 10, 2) := by decide +kernel
theorem dX9_go_237 : decode cX9_go 237 = .ok (.iinc 2 1, 3) := by decide +kernel
theorem dX9_go_240 : decode cX9_go 240 = .ok (.aload_n 0, 1) := by decide +kernel
theorem dX9_go_241 : decode cX9_go 241 = .ok (.getfield 119, 3) := by decide +kernel
theorem dX9_go_244 : decode cX9_go 244 = .ok (.ifCond .ne 18, 3) := by decide +kernel
theorem dX9_go_247 : decode cX9_go 247 = .ok (.aload_n 0, 1) := by decide +kernel
theorem dX9_go_248 : decode cX9_go 248 = .ok (.getfield 116, 3) := by decide +kernel
theorem dX9_go_251 : decode cX9_go 251 = .ok (.aload_n 0, 1) := by decide +kernel
theorem dX9_go_252 : decode cX9_go 252 = .ok (.getfield 113, 3) := by decide +kernel
theorem dX9_go_255 : decode cX9_go 255 = .ok (.if_icmp .ge 7, 3) := by decide +kernel
theorem dX9_go_258 : decode cX9_go 258 = .ok (.iconst 1, 1) := by decide +kernel
theorem dX9_go_259 : decode cX9_go 259 = .ok (.goto 4, 3) := by decide +kernel
theorem dX9_go_262 : decode cX9_go 262 = .ok (.iconst 0, 1) := by decide +kernel
theorem dX9_go_263 : decode cX9_go 263 = .ok (.istore_n 3, 1) := by decide +kernel
theorem dX9_go_264 : decode cX9_go 264 = .ok (.iload_n 3, 1) := by decide +kernel
theorem dX9_go_265 : decode cX9_go 265 = .ok (.ifCond .eq 26, 3) := by decide +kernel
theorem dX9_go_268 : decode cX9_go 268 = .ok (.aload_n 0, 1) := by decide +kernel
theorem dX9_go_269 : decode cX9_go 269 = .ok (.bipush 44, 2) := by decide +kernel
theorem dX9_go_271 : decode cX9_go 271 = .ok (.bipush 44, 2) := by decide +kernel
theorem dX9_go_273 : decode cX9_go 273 = .ok (.invokevirtual 123, 3) := by decide +kernel
theorem dX9_go_276 : decode cX9_go 276 = .ok (.istore 10, 2) := by decide +kernel
theorem dX9_go_278 : decode cX9_go 278 = .ok (.aload_n 0, 1) := by decide +kernel
theorem dX9_go_279 : decode cX9_go 279 = .ok (.getfield 119, 3) := by decide +kernel
theorem dX9_go_282 : decode cX9_go 282 = .ok (.ifCond .ne 7, 3) := by decide +kernel
theorem dX9_go_285 : decode cX9_go 285 = .ok (.iconst 1, 1) := by decide +kernel
theorem dX9_go_286 : decode cX9_go 286 = .ok (.goto 4, 3) := by decide +kernel
theorem dX9_go_289 : decode cX9_go 289 = .ok (.iconst 0, 1) := by decide +kernel
theorem dX9_go_290 : decode cX9_go 290 = .ok (.istore_n 3, 1) := by decide +kernel
theorem dX9_go_291 : decode cX9_go 291 = .ok (.goto (-277), 3) := by decide +kernel
theorem dX9_go_294 : decode cX9_go 294 = .ok (.iload_n 2, 1) := by decide +kernel
theorem dX9_go_295 : decode cX9_go 295 = .ok (.ireturn, 1) := by decide +kernel
set_option maxRecDepth 20000 in
theorem ggX9_bowAll_X9_go : GoodIn wsX9_bowAll wsX9_go := goodIn_r _ [8, 2, 1, 9, 10, 11, 12, 13, 7, 14, 15, 16, 17, 18, 19, 20, 21, 22, 23, 24, 25, 3, 32, 33, 34, 35, 36, 37, 38, 39, 40, 41, 42, 43, 44, 45, 46, 47] (by decide +kernel) (by decide +kernel)
set_option maxRecDepth 20000 in
theorem gX9_bowAll_X9_go : GoodIn wsX9_bowAll (wsV RX9 129 RX9 yX9_go wsX9_go) := goodIn_app (goodIn_of _ (by decide +kernel)) ggX9_bowAll_X9_go
set_option maxRecDepth 20000 in
theorem ggX9_bowAll_X9_know : GoodIn wsX9_bowAll wsX9_know := goodIn_r _ [29, 30, 31, 3, 32, 33, 34, 35, 36, 37, 38, 39, 40, 41, 42, 43, 44, 45, 46, 47] (by decide +kernel) (by decide +kernel)
set_option maxRecDepth 20000 in
theorem gX9_bowAll_X9_know : GoodIn wsX9_bowAll (wsV RX9 89 RX9 yX9_know wsX9_know) := goodIn_app (goodIn_of _ (by decide +kernel)) ggX9_bowAll_X9_know
theorem dX9_bowAll_0 : decode cX9_bowAll 0 = .ok (.aload_n 0, 1) := by decide +kernel
theorem dX9_bowAll_1 : decode cX9_bowAll 1 = .ok (.iconst 0, 1) := by decide +kernel
theorem dX9_bowAll_2 : decode cX9_bowAll 2 = .ok (.invokevirtual 129, 3) := by decide +kernel
theorem dX9_bowAll_5 : decode cX9_bowAll 5 = .ok (.istore_n 1, 1) := by decide +kernel
theorem dX9_bowAll_6 : decode cX9_bowAll 6 = .ok (.aload_n 0, 1) := by decide +kernel
theorem dX9_bowAll_7 : decode cX9_bowAll 7 = .ok (.getfield 119, 3) := by decide +kernel
theorem dX9_bowAll_10 : decode cX9_bowAll 10 = .ok (.ifCond .eq 11, 3) := by decide +kernel
theorem dX9_bowAll_13 : decode cX9_bowAll 13 = .ok (.bipush (-100), 2) := by decide +kernel
theorem dX9_bowAll_15 : decode cX9_bowAll 15 = .ok (.aload_n 0, 1) := by decide +kernel
theorem dX9_bowAll_16 : decode cX9_bowAll 16 = .ok (.getfield 116, 3) := by decide +kernel
theorem dX9_bowAll_19 : decode cX9_bowAll 19 = .ok (.isub, 1) := by decide +kernel
theorem dX9_bowAll_20 : decode cX9_bowAll 20 = .ok (.ireturn, 1) := by decide +kernel
theorem dX9_bowAll_21 : decode cX9_bowAll 21 = .ok (.aload_n 0, 1) := by decide +kernel
theorem dX9_bowAll_22 : decode cX9_bowAll 22 = .ok (.getfield 22, 3) := by decide +kernel
theorem dX9_bowAll_25 : decode cX9_bowAll 25 = .ok (.sipush 159, 3) := by decide +kernel
theorem dX9_bowAll_28 : decode cX9_bowAll 28 = .ok (.iaload, 1) := by decide +kernel
theorem dX9_bowAll_29 : decode cX9_bowAll 29 = .ok (.iload_n 1, 1) := by decide +kernel
theorem dX9_bowAll_30 : decode cX9_bowAll 30 = .ok (.iadd, 1) := by decide +kernel
theorem dX9_bowAll_31 : decode cX9_bowAll 31 = .ok (.bipush 16, 2) := by decide +kernel
theorem dX9_bowAll_33 : decode cX9_bowAll 33 = .ok (.if_icmp .le 6, 3) := by decide +kernel
theorem dX9_bowAll_36 : decode cX9_bowAll 36 = .ok (.bipush (-3), 2) := by decide +kernel
theorem dX9_bowAll_38 : decode cX9_bowAll 38 = .ok (.ireturn, 1) := by decide +kernel
theorem dX9_bowAll_39 : decode cX9_bowAll 39 = .ok (.aload_n 0, 1) := by decide +kernel
theorem dX9_bowAll_40 : decode cX9_bowAll 40 = .ok (.invokevirtual 89, 3) := by decide +kernel
theorem dX9_bowAll_43 : decode cX9_bowAll 43 = .ok (.aload_n 0, 1) := by decide +kernel
theorem dX9_bowAll_44 : decode cX9_bowAll 44 = .ok (.iconst 1, 1) := by decide +kernel
theorem dX9_bowAll_45 : decode cX9_bowAll 45 = .ok (.invokevirtual 129, 3) := by decide +kernel
theorem dX9_bowAll_48 : decode cX9_bowAll 48 = .ok (.ireturn, 1) := by decide +kernel
theorem dX9_undo_0 : decode cX9_undo 0 = .ok (.aload_n 0, 1) := by decide +kernel
theorem dX9_undo_1 : decode cX9_undo 1 = .ok (.getfield 59, 3) := by decide +kernel
theorem dX9_undo_4 : decode cX9_undo 4 = .ok (.ifCond .ne 6, 3) := by decide +kernel
theorem dX9_undo_7 : decode cX9_undo 7 = .ok (.bipush (-5), 2) := by decide +kernel
theorem dX9_undo_9 : decode cX9_undo 9 = .ok (.ireturn, 1) := by decide +kernel
theorem dX9_undo_10 : decode cX9_undo 10 = .ok (.aload_n 0, 1) := by decide +kernel
theorem dX9_undo_11 : decode cX9_undo 11 = .ok (.dup, 1) := by decide +kernel
theorem dX9_undo_12 : decode cX9_undo 12 = .ok (.getfield 59, 3) := by decide +kernel
theorem dX9_undo_15 : decode cX9_undo 15 = .ok (.iconst 1, 1) := by decide +kernel
theorem dX9_undo_16 : decode cX9_undo 16 = .ok (.isub, 1) := by decide +kernel
theorem dX9_undo_17 : decode cX9_undo 17 = .ok (.putfield 59, 3) := by decide +kernel
theorem dX9_undo_20 : decode cX9_undo 20 = .ok (.iconst 0, 1) := by decide +kernel
theorem dX9_undo_21 : decode cX9_undo 21 = .ok (.istore_n 1, 1) := by decide +kernel
theorem dX9_undo_22 : decode cX9_undo 22 = .ok (.iload_n 1, 1) := by decide +kernel
theorem dX9_undo_23 : decode cX9_undo 23 = .ok (.sipush 208, 3) := by decide +kernel
theorem dX9_undo_26 : decode cX9_undo 26 = .ok (.if_icmp .ge 30, 3) := by decide +kernel
theorem dX9_undo_29 : decode cX9_undo 29 = .ok (.aload_n 0, 1) := by decide +kernel
theorem dX9_undo_30 : decode cX9_undo 30 = .ok (.getfield 22, 3) := by decide +kernel
theorem dX9_undo_33 : decode cX9_undo 33 = .ok (.iload_n 1, 1) := by decide +kernel
theorem dX9_undo_34 : decode cX9_undo 34 = .ok (.aload_n 0, 1) := by decide +kernel
theorem dX9_undo_35 : decode cX9_undo 35 = .ok (.getfield 25, 3) := by decide +kernel
theorem dX9_undo_38 : decode cX9_undo 38 = .ok (.sipush 208, 3) := by decide +kernel
theorem dX9_undo_41 : decode cX9_undo 41 = .ok (.aload_n 0, 1) := by decide +kernel
theorem dX9_undo_42 : decode cX9_undo 42 = .ok (.getfield 59, 3) := by decide +kernel
theorem dX9_undo_45 : decode cX9_undo 45 = .ok (.imul, 1) := by decide +kernel
theorem dX9_undo_46 : decode cX9_undo 46 = .ok (.iload_n 1, 1) := by decide +kernel
theorem dX9_undo_47 : decode cX9_undo 47 = .ok (.iadd, 1) := by decide +kernel
theorem dX9_undo_48 : decode cX9_undo 48 = .ok (.iaload, 1) := by decide +kernel
theorem dX9_undo_49 : decode cX9_undo 49 = .ok (.iastore, 1) := by decide +kernel
theorem dX9_undo_50 : decode cX9_undo 50 = .ok (.iinc 1 1, 3) := by decide +kernel
theorem dX9_undo_53 : decode cX9_undo 53 = .ok (.goto (-31), 3) := by decide +kernel
theorem dX9_undo_56 : decode cX9_undo 56 = .ok (.aload_n 0, 1) := by decide +kernel
theorem dX9_undo_57 : decode cX9_undo 57 = .ok (.getfield 59, 3) := by decide +kernel
theorem dX9_undo_60 : decode cX9_undo 60 = .ok (.ireturn, 1) := by decide +kernel
set_option maxRecDepth 20000 in
theorem ggX9_keep_X9_allGrains : GoodIn wsX9_keep wsX9_allGrains := goodIn_r _ [8, 2, 9, 10, 11, 12, 13, 14, 15, 16, 17, 18, 19, 20, 21, 22, 23, 24] (by decide +kernel) (by decide +kernel)
set_option maxRecDepth 20000 in
theorem gX9_keep_X9_allGrains : GoodIn wsX9_keep (wsV RX9 92 RX9 yX9_allGrains wsX9_allGrains) := goodIn_app (goodIn_of _ (by decide +kernel)) ggX9_keep_X9_allGrains
theorem dX9_keep_0 : decode cX9_keep 0 = .ok (.iconst 0, 1) := by decide +kernel
theorem dX9_keep_1 : decode cX9_keep 1 = .ok (.istore_n 1, 1) := by decide +kernel
theorem dX9_keep_2 : decode cX9_keep 2 = .ok (.iload_n 1, 1) := by decide +kernel
theorem dX9_keep_3 : decode cX9_keep 3 = .ok (.sipush 208, 3) := by decide +kernel
theorem dX9_keep_6 : decode cX9_keep 6 = .ok (.if_icmp .ge 21, 3) := by decide +kernel
theorem dX9_keep_9 : decode cX9_keep 9 = .ok (.aload_n 0, 1) := by decide +kernel
theorem dX9_keep_10 : decode cX9_keep 10 = .ok (.getfield 28, 3) := by decide +kernel
theorem dX9_keep_13 : decode cX9_keep 13 = .ok (.iload_n 1, 1) := by decide +kernel
theorem dX9_keep_14 : decode cX9_keep 14 = .ok (.aload_n 0, 1) := by decide +kernel
theorem dX9_keep_15 : decode cX9_keep 15 = .ok (.getfield 22, 3) := by decide +kernel
theorem dX9_keep_18 : decode cX9_keep 18 = .ok (.iload_n 1, 1) := by decide +kernel
theorem dX9_keep_19 : decode cX9_keep 19 = .ok (.iaload, 1) := by decide +kernel
theorem dX9_keep_20 : decode cX9_keep 20 = .ok (.iastore, 1) := by decide +kernel
theorem dX9_keep_21 : decode cX9_keep 21 = .ok (.iinc 1 1, 3) := by decide +kernel
theorem dX9_keep_24 : decode cX9_keep 24 = .ok (.goto (-22), 3) := by decide +kernel
theorem dX9_keep_27 : decode cX9_keep 27 = .ok (.aload_n 0, 1) := by decide +kernel
theorem dX9_keep_28 : decode cX9_keep 28 = .ok (.iconst 1, 1) := by decide +kernel
theorem dX9_keep_29 : decode cX9_keep 29 = .ok (.putfield 133, 3) := by decide +kernel
theorem dX9_keep_32 : decode cX9_keep 32 = .ok (.aload_n 0, 1) := by decide +kernel
theorem dX9_keep_33 : decode cX9_keep 33 = .ok (.invokevirtual 92, 3) := by decide +kernel
theorem dX9_keep_36 : decode cX9_keep 36 = .ok (.ireturn, 1) := by decide +kernel
set_option maxRecDepth 20000 in
theorem ggX9_restore_X9_know : GoodIn wsX9_restore wsX9_know := goodIn_r _ [8, 9, 10, 2, 15, 16, 17, 18, 19, 20, 21, 22, 23, 24, 25, 26, 27, 28, 29, 30] (by decide +kernel) (by decide +kernel)
set_option maxRecDepth 20000 in
theorem gX9_restore_X9_know : GoodIn wsX9_restore (wsV RX9 89 RX9 yX9_know wsX9_know) := goodIn_app (goodIn_of _ (by decide +kernel)) ggX9_restore_X9_know
set_option maxRecDepth 20000 in
theorem ggX9_restore_X9_allGrains : GoodIn wsX9_restore wsX9_allGrains := goodIn_r _ [14, 2, 15, 16, 17, 18, 19, 20, 21, 22, 23, 24, 25, 26, 27, 28, 29, 30] (by decide +kernel) (by decide +kernel)
set_option maxRecDepth 20000 in
theorem gX9_restore_X9_allGrains : GoodIn wsX9_restore (wsV RX9 92 RX9 yX9_allGrains wsX9_allGrains) := goodIn_app (goodIn_of _ (by decide +kernel)) ggX9_restore_X9_allGrains
theorem dX9_restore_0 : decode cX9_restore 0 = .ok (.aload_n 0, 1) := by decide +kernel
theorem dX9_restore_1 : decode cX9_restore 1 = .ok (.getfield 133, 3) := by decide +kernel
theorem dX9_restore_4 : decode cX9_restore 4 = .ok (.ifCond .ne 6, 3) := by decide +kernel
theorem dX9_restore_7 : decode cX9_restore 7 = .ok (.bipush (-5), 2) := by decide +kernel
theorem dX9_restore_9 : decode cX9_restore 9 = .ok (.ireturn, 1) := by decide +kernel
theorem dX9_restore_10 : decode cX9_restore 10 = .ok (.aload_n 0, 1) := by decide +kernel
theorem dX9_restore_11 : decode cX9_restore 11 = .ok (.invokevirtual 89, 3) := by decide +kernel
theorem dX9_restore_14 : decode cX9_restore 14 = .ok (.iconst 0, 1) := by decide +kernel
theorem dX9_restore_15 : decode cX9_restore 15 = .ok (.istore_n 1, 1) := by decide +kernel
theorem dX9_restore_16 : decode cX9_restore 16 = .ok (.iload_n 1, 1) := by decide +kernel
theorem dX9_restore_17 : decode cX9_restore 17 = .ok (.sipush 208, 3) := by decide +kernel
theorem dX9_restore_20 : decode cX9_restore 20 = .ok (.if_icmp .ge 21, 3) := by decide +kernel
theorem dX9_restore_23 : decode cX9_restore 23 = .ok (.aload_n 0, 1) := by decide +kernel
theorem dX9_restore_24 : decode cX9_restore 24 = .ok (.getfield 22, 3) := by decide +kernel
theorem dX9_restore_27 : decode cX9_restore 27 = .ok (.iload_n 1, 1) := by decide +kernel
theorem dX9_restore_28 : decode cX9_restore 28 = .ok (.aload_n 0, 1) := by decide +kernel
theorem dX9_restore_29 : decode cX9_restore 29 = .ok (.getfield 28, 3) := by decide +kernel
theorem dX9_restore_32 : decode cX9_restore 32 = .ok (.iload_n 1, 1) := by decide +kernel
theorem dX9_restore_33 : decode cX9_restore 33 = .ok (.iaload, 1) := by decide +kernel
theorem dX9_restore_34 : decode cX9_restore 34 = .ok (.iastore, 1) := by decide +kernel
theorem dX9_restore_35 : decode cX9_restore 35 = .ok (.iinc 1 1, 3) := by decide +kernel
theorem dX9_restore_38 : decode cX9_restore 38 = .ok (.goto (-22), 3) := by decide +kernel
theorem dX9_restore_41 : decode cX9_restore 41 = .ok (.aload_n 0, 1) := by decide +kernel
theorem dX9_restore_42 : decode cX9_restore 42 = .ok (.invokevirtual 92, 3) := by decide +kernel
theorem dX9_restore_45 : decode cX9_restore 45 = .ok (.ireturn, 1) := by decide +kernel
set_option maxRecDepth 20000 in
theorem ggX9_isStill_X9_swingAt : GoodIn wsX9_isStill wsX9_swingAt := goodIn_r _ [6, 7, 8, 9, 10, 11, 12, 13, 14, 15, 16, 17, 18, 19, 20, 21, 22, 23] (by decide +kernel) (by decide +kernel)
set_option maxRecDepth 20000 in
theorem gX9_isStill_X9_swingAt : GoodIn wsX9_isStill (wsV RX9 63 RX9 yX9_swingAt wsX9_swingAt) := goodIn_app (goodIn_of _ (by decide +kernel)) ggX9_isStill_X9_swingAt
theorem dX9_isStill_0 : decode cX9_isStill 0 = .ok (.aload_n 0, 1) := by decide +kernel
theorem dX9_isStill_1 : decode cX9_isStill 1 = .ok (.iload_n 1, 1) := by decide +kernel
theorem dX9_isStill_2 : decode cX9_isStill 2 = .ok (.iload_n 2, 1) := by decide +kernel
theorem dX9_isStill_3 : decode cX9_isStill 3 = .ok (.invokevirtual 63, 3) := by decide +kernel
theorem dX9_isStill_6 : decode cX9_isStill 6 = .ok (.aload_n 0, 1) := by decide +kernel
theorem dX9_isStill_7 : decode cX9_isStill 7 = .ok (.getfield 22, 3) := by decide +kernel
theorem dX9_isStill_10 : decode cX9_isStill 10 = .ok (.sipush 146, 3) := by decide +kernel
theorem dX9_isStill_13 : decode cX9_isStill 13 = .ok (.iaload, 1) := by decide +kernel
theorem dX9_isStill_14 : decode cX9_isStill 14 = .ok (.if_icmp .gt 7, 3) := by decide +kernel
theorem dX9_isStill_17 : decode cX9_isStill 17 = .ok (.iconst 1, 1) := by decide +kernel
theorem dX9_isStill_18 : decode cX9_isStill 18 = .ok (.goto 4, 3) := by decide +kernel
theorem dX9_isStill_21 : decode cX9_isStill 21 = .ok (.iconst 0, 1) := by decide +kernel
theorem dX9_isStill_22 : decode cX9_isStill 22 = .ok (.ireturn, 1) := by decide +kernel
set_option maxRecDepth 20000 in
theorem ggX9_place_X9_isOn : GoodIn wsX9_place wsX9_isOn := goodIn_r _ [5, 6, 7, 4, 8] (by decide +kernel) (by decide +kernel)
set_option maxRecDepth 20000 in
theorem gX9_place_X9_isOn : GoodIn wsX9_place (va_wsS RX9 80 yX9_isOn wsX9_isOn) := goodIn_app (goodIn_of _ (by decide +kernel)) ggX9_place_X9_isOn
set_option maxRecDepth 20000 in
theorem ggX9_place_X9_swingAt : GoodIn wsX9_place wsX9_swingAt := goodIn_r _ [12, 13, 22, 23, 24, 25, 26, 27, 28, 29, 30, 31, 32, 33, 34, 35, 36, 37] (by decide +kernel) (by decide +kernel)
set_option maxRecDepth 20000 in
theorem gX9_place_X9_swingAt : GoodIn wsX9_place (wsV RX9 63 RX9 yX9_swingAt wsX9_swingAt) := goodIn_app (goodIn_of _ (by decide +kernel)) ggX9_place_X9_swingAt
set_option maxRecDepth 20000 in
theorem ggX9_place_X9_isStill : GoodIn wsX9_place wsX9_isStill := goodIn_r _ [17, 1, 9, 10, 11, 4, 12, 13, 22, 23, 24, 25, 26, 27, 28, 29, 30, 31, 32, 33, 34, 35, 36, 37] (by decide +kernel) (by decide +kernel)
set_option maxRecDepth 20000 in
theorem gX9_place_X9_isStill : GoodIn wsX9_place (wsV RX9 136 RX9 yX9_isStill wsX9_isStill) := goodIn_app (goodIn_of _ (by decide +kernel)) ggX9_place_X9_isStill
set_option maxRecDepth 20000 in
theorem ggX9_place_X9_clampOn : GoodIn wsX9_place wsX9_clampOn := goodIn_r _ [21, 1, 22, 23, 24, 25, 26, 27, 28, 29, 30, 31, 32, 33, 34, 35, 36, 37] (by decide +kernel) (by decide +kernel)
set_option maxRecDepth 20000 in
theorem gX9_place_X9_clampOn : GoodIn wsX9_place (wsV RX9 96 RX9 yX9_clampOn wsX9_clampOn) := goodIn_app (goodIn_of _ (by decide +kernel)) ggX9_place_X9_clampOn
theorem dX9_place_0 : decode cX9_place 0 = .ok (.iload_n 1, 1) := by decide +kernel
theorem dX9_place_1 : decode cX9_place 1 = .ok (.iload_n 2, 1) := by decide +kernel
theorem dX9_place_2 : decode cX9_place 2 = .ok (.invokestatic 80, 3) := by decide +kernel
theorem dX9_place_5 : decode cX9_place 5 = .ok (.ifCond .ne 5, 3) := by decide +kernel
theorem dX9_place_8 : decode cX9_place 8 = .ok (.iconst (-1), 1) := by decide +kernel
theorem dX9_place_9 : decode cX9_place 9 = .ok (.ireturn, 1) := by decide +kernel
theorem dX9_place_10 : decode cX9_place 10 = .ok (.bipush 12, 2) := by decide +kernel
theorem dX9_place_12 : decode cX9_place 12 = .ok (.iload_n 2, 1) := by decide +kernel
theorem dX9_place_13 : decode cX9_place 13 = .ok (.imul, 1) := by decide +kernel
theorem dX9_place_14 : decode cX9_place 14 = .ok (.iload_n 1, 1) := by decide +kernel
theorem dX9_place_15 : decode cX9_place 15 = .ok (.iadd, 1) := by decide +kernel
theorem dX9_place_16 : decode cX9_place 16 = .ok (.istore 4, 2) := by decide +kernel
theorem dX9_place_18 : decode cX9_place 18 = .ok (.iload_n 3, 1) := by decide +kernel
theorem dX9_place_19 : decode cX9_place 19 = .ok (.tableswitch 120 0 3 #[29, 39, 72, 113], 29) := by decide +kernel
theorem dX9_place_48 : decode cX9_place 48 = .ok (.aload_n 0, 1) := by decide +kernel
theorem dX9_place_49 : decode cX9_place 49 = .ok (.getfield 22, 3) := by decide +kernel
theorem dX9_place_52 : decode cX9_place 52 = .ok (.iconst 0, 1) := by decide +kernel
theorem dX9_place_53 : decode cX9_place 53 = .ok (.iload 4, 2) := by decide +kernel
theorem dX9_place_55 : decode cX9_place 55 = .ok (.iadd, 1) := by decide +kernel
theorem dX9_place_56 : decode cX9_place 56 = .ok (.iaload, 1) := by decide +kernel
theorem dX9_place_57 : decode cX9_place 57 = .ok (.ireturn, 1) := by decide +kernel
theorem dX9_place_58 : decode cX9_place 58 = .ok (.aload_n 0, 1) := by decide +kernel
theorem dX9_place_59 : decode cX9_place 59 = .ok (.getfield 22, 3) := by decide +kernel
theorem dX9_place_62 : decode cX9_place 62 = .ok (.sipush 153, 3) := by decide +kernel
theorem dX9_place_65 : decode cX9_place 65 = .ok (.iaload, 1) := by decide +kernel
theorem dX9_place_66 : decode cX9_place 66 = .ok (.bipush (-5), 2) := by decide +kernel
theorem dX9_place_68 : decode cX9_place 68 = .ok (.if_icmp .ne 8, 3) := by decide +kernel
theorem dX9_place_71 : decode cX9_place 71 = .ok (.bipush (-5), 2) := by decide +kernel
theorem dX9_place_73 : decode cX9_place 73 = .ok (.goto 17, 3) := by decide +kernel
theorem dX9_place_76 : decode cX9_place 76 = .ok (.aload_n 0, 1) := by decide +kernel
theorem dX9_place_77 : decode cX9_place 77 = .ok (.aload_n 0, 1) := by decide +kernel
theorem dX9_place_78 : decode cX9_place 78 = .ok (.getfield 22, 3) := by decide +kernel
theorem dX9_place_81 : decode cX9_place 81 = .ok (.sipush 153, 3) := by decide +kernel
theorem dX9_place_84 : decode cX9_place 84 = .ok (.iaload, 1) := by decide +kernel
theorem dX9_place_85 : decode cX9_place 85 = .ok (.iload 4, 2) := by decide +kernel
theorem dX9_place_87 : decode cX9_place 87 = .ok (.invokevirtual 63, 3) := by decide +kernel
theorem dX9_place_90 : decode cX9_place 90 = .ok (.ireturn, 1) := by decide +kernel
theorem dX9_place_91 : decode cX9_place 91 = .ok (.aload_n 0, 1) := by decide +kernel
theorem dX9_place_92 : decode cX9_place 92 = .ok (.getfield 22, 3) := by decide +kernel
theorem dX9_place_95 : decode cX9_place 95 = .ok (.sipush 153, 3) := by decide +kernel
theorem dX9_place_98 : decode cX9_place 98 = .ok (.iaload, 1) := by decide +kernel
theorem dX9_place_99 : decode cX9_place 99 = .ok (.bipush (-5), 2) := by decide +kernel
theorem dX9_place_101 : decode cX9_place 101 = .ok (.if_icmp .ne 8, 3) := by decide +kernel
theorem dX9_place_104 : decode cX9_place 104 = .ok (.bipush (-5), 2) := by decide +kernel
theorem dX9_place_106 : decode cX9_place 106 = .ok (.goto 25, 3) := by decide +kernel
theorem dX9_place_109 : decode cX9_place 109 = .ok (.aload_n 0, 1) := by decide +kernel
theorem dX9_place_110 : decode cX9_place 110 = .ok (.aload_n 0, 1) := by decide +kernel
theorem dX9_place_111 : decode cX9_place 111 = .ok (.getfield 22, 3) := by decide +kernel
theorem dX9_place_114 : decode cX9_place 114 = .ok (.sipush 153, 3) := by decide +kernel
theorem dX9_place_117 : decode cX9_place 117 = .ok (.iaload, 1) := by decide +kernel
theorem dX9_place_118 : decode cX9_place 118 = .ok (.iload 4, 2) := by decide +kernel
theorem dX9_place_120 : decode cX9_place 120 = .ok (.invokevirtual 136, 3) := by decide +kernel
theorem dX9_place_123 : decode cX9_place 123 = .ok (.ifCond .eq 7, 3) := by decide +kernel
theorem dX9_place_126 : decode cX9_place 126 = .ok (.iconst 1, 1) := by decide +kernel
theorem dX9_place_127 : decode cX9_place 127 = .ok (.goto 4, 3) := by decide +kernel
theorem dX9_place_130 : decode cX9_place 130 = .ok (.iconst 0, 1) := by decide +kernel
theorem dX9_place_131 : decode cX9_place 131 = .ok (.ireturn, 1) := by decide +kernel
theorem dX9_place_132 : decode cX9_place 132 = .ok (.aload_n 0, 1) := by decide +kernel
theorem dX9_place_133 : decode cX9_place 133 = .ok (.iload 4, 2) := by decide +kernel
theorem dX9_place_135 : decode cX9_place 135 = .ok (.invokevirtual 96, 3) := by decide +kernel
theorem dX9_place_138 : decode cX9_place 138 = .ok (.ireturn, 1) := by decide +kernel
theorem dX9_place_139 : decode cX9_place 139 = .ok (.bipush (-2), 2) := by decide +kernel
theorem dX9_place_141 : decode cX9_place 141 = .ok (.ireturn, 1) := by decide +kernel
set_option maxRecDepth 20000 in
theorem ggX9_still_X9_isStill : GoodIn wsX9_still wsX9_isStill := goodIn_r _ [6, 1, 7, 8, 9, 5, 10, 11, 12, 13, 14, 15, 16, 17, 18, 19, 20, 21, 22, 23, 24, 25, 26, 27] (by decide +kernel) (by decide +kernel)
set_option maxRecDepth 20000 in
theorem gX9_still_X9_isStill : GoodIn wsX9_still (wsV RX9 136 RX9 yX9_isStill wsX9_isStill) := goodIn_app (goodIn_of _ (by decide +kernel)) ggX9_still_X9_isStill
theorem dX9_still_0 : decode cX9_still 0 = .ok (.iconst 0, 1) := by decide +kernel
theorem dX9_still_1 : decode cX9_still 1 = .ok (.istore_n 3, 1) := by decide +kernel
theorem dX9_still_2 : decode cX9_still 2 = .ok (.iconst 0, 1) := by decide +kernel
theorem dX9_still_3 : decode cX9_still 3 = .ok (.istore 4, 2) := by decide +kernel
theorem dX9_still_5 : decode cX9_still 5 = .ok (.iload 4, 2) := by decide +kernel
theorem dX9_still_7 : decode cX9_still 7 = .ok (.sipush 144, 3) := by decide +kernel
theorem dX9_still_10 : decode cX9_still 10 = .ok (.if_icmp .ge 44, 3) := by decide +kernel
theorem dX9_still_13 : decode cX9_still 13 = .ok (.iload_n 3, 1) := by decide +kernel
theorem dX9_still_14 : decode cX9_still 14 = .ok (.aload_n 0, 1) := by decide +kernel
theorem dX9_still_15 : decode cX9_still 15 = .ok (.iload_n 1, 1) := by decide +kernel
theorem dX9_still_16 : decode cX9_still 16 = .ok (.iload 4, 2) := by decide +kernel
theorem dX9_still_18 : decode cX9_still 18 = .ok (.invokevirtual 136, 3) := by decide +kernel
theorem dX9_still_21 : decode cX9_still 21 = .ok (.ifCond .ne 7, 3) := by decide +kernel
theorem dX9_still_24 : decode cX9_still 24 = .ok (.iconst 0, 1) := by decide +kernel
theorem dX9_still_25 : decode cX9_still 25 = .ok (.goto 21, 3) := by decide +kernel
theorem dX9_still_28 : decode cX9_still 28 = .ok (.iload_n 2, 1) := by decide +kernel
theorem dX9_still_29 : decode cX9_still 29 = .ok (.iconst 4, 1) := by decide +kernel
theorem dX9_still_30 : decode cX9_still 30 = .ok (.if_icmp .ne 7, 3) := by decide +kernel
theorem dX9_still_33 : decode cX9_still 33 = .ok (.iconst 1, 1) := by decide +kernel
theorem dX9_still_34 : decode cX9_still 34 = .ok (.goto 12, 3) := by decide +kernel
theorem dX9_still_37 : decode cX9_still 37 = .ok (.aload_n 0, 1) := by decide +kernel
theorem dX9_still_38 : decode cX9_still 38 = .ok (.getfield 22, 3) := by decide +kernel
theorem dX9_still_41 : decode cX9_still 41 = .ok (.iconst 0, 1) := by decide +kernel
theorem dX9_still_42 : decode cX9_still 42 = .ok (.iload 4, 2) := by decide +kernel
theorem dX9_still_44 : decode cX9_still 44 = .ok (.iadd, 1) := by decide +kernel
theorem dX9_still_45 : decode cX9_still 45 = .ok (.iaload, 1) := by decide +kernel
theorem dX9_still_46 : decode cX9_still 46 = .ok (.iadd, 1) := by decide +kernel
theorem dX9_still_47 : decode cX9_still 47 = .ok (.istore_n 3, 1) := by decide +kernel
theorem dX9_still_48 : decode cX9_still 48 = .ok (.iinc 4 1, 3) := by decide +kernel
theorem dX9_still_51 : decode cX9_still 51 = .ok (.goto (-46), 3) := by decide +kernel
theorem dX9_still_54 : decode cX9_still 54 = .ok (.iload_n 3, 1) := by decide +kernel
theorem dX9_still_55 : decode cX9_still 55 = .ok (.ireturn, 1) := by decide +kernel
set_option maxRecDepth 20000 in
theorem ggX9_lines_X9_isStill : GoodIn wsX9_lines wsX9_isStill := goodIn_r _ [6, 7, 8, 9, 10, 5, 11, 12, 24, 25, 26, 27, 28, 29, 30, 31, 32, 33, 34, 35, 36, 37, 38, 39] (by decide +kernel) (by decide +kernel)
set_option maxRecDepth 20000 in
theorem gX9_lines_X9_isStill : GoodIn wsX9_lines (wsV RX9 136 RX9 yX9_isStill wsX9_isStill) := goodIn_app (goodIn_of _ (by decide +kernel)) ggX9_lines_X9_isStill
set_option maxRecDepth 20000 in
theorem ggX9_lines_X9_meet : GoodIn wsX9_lines wsX9_meet := goodIn_r _ [16, 1, 17, 18, 19, 5, 20, 21, 22, 23, 24, 25, 26, 27, 28, 29, 30, 31, 32, 33, 34, 35, 36, 37, 38, 39] (by decide +kernel) (by decide +kernel)
set_option maxRecDepth 20000 in
theorem gX9_lines_X9_meet : GoodIn wsX9_lines (wsV RX9 139 RX9 yX9_meet wsX9_meet) := goodIn_app (goodIn_of _ (by decide +kernel)) ggX9_lines_X9_meet
theorem dX9_lines_0 : decode cX9_lines 0 = .ok (.iconst 0, 1) := by decide +kernel
theorem dX9_lines_1 : decode cX9_lines 1 = .ok (.istore_n 2, 1) := by decide +kernel
theorem dX9_lines_2 : decode cX9_lines 2 = .ok (.iconst 0, 1) := by decide +kernel
theorem dX9_lines_3 : decode cX9_lines 3 = .ok (.istore_n 3, 1) := by decide +kernel
theorem dX9_lines_4 : decode cX9_lines 4 = .ok (.iload_n 3, 1) := by decide +kernel
theorem dX9_lines_5 : decode cX9_lines 5 = .ok (.sipush 144, 3) := by decide +kernel
theorem dX9_lines_8 : decode cX9_lines 8 = .ok (.if_icmp .ge 29, 3) := by decide +kernel
theorem dX9_lines_11 : decode cX9_lines 11 = .ok (.aload_n 0, 1) := by decide +kernel
theorem dX9_lines_12 : decode cX9_lines 12 = .ok (.getfield 37, 3) := by decide +kernel
theorem dX9_lines_15 : decode cX9_lines 15 = .ok (.iload_n 3, 1) := by decide +kernel
theorem dX9_lines_16 : decode cX9_lines 16 = .ok (.aload_n 0, 1) := by decide +kernel
theorem dX9_lines_17 : decode cX9_lines 17 = .ok (.iload_n 1, 1) := by decide +kernel
theorem dX9_lines_18 : decode cX9_lines 18 = .ok (.iload_n 3, 1) := by decide +kernel
theorem dX9_lines_19 : decode cX9_lines 19 = .ok (.invokevirtual 136, 3) := by decide +kernel
theorem dX9_lines_22 : decode cX9_lines 22 = .ok (.ifCond .ne 7, 3) := by decide +kernel
theorem dX9_lines_25 : decode cX9_lines 25 = .ok (.iconst 1, 1) := by decide +kernel
theorem dX9_lines_26 : decode cX9_lines 26 = .ok (.goto 4, 3) := by decide +kernel
theorem dX9_lines_29 : decode cX9_lines 29 = .ok (.iconst 0, 1) := by decide +kernel
theorem dX9_lines_30 : decode cX9_lines 30 = .ok (.bastore, 1) := by decide +kernel
theorem dX9_lines_31 : decode cX9_lines 31 = .ok (.iinc 3 1, 3) := by decide +kernel
theorem dX9_lines_34 : decode cX9_lines 34 = .ok (.goto (-30), 3) := by decide +kernel
theorem dX9_lines_37 : decode cX9_lines 37 = .ok (.iconst 0, 1) := by decide +kernel
theorem dX9_lines_38 : decode cX9_lines 38 = .ok (.istore_n 3, 1) := by decide +kernel
theorem dX9_lines_39 : decode cX9_lines 39 = .ok (.iload_n 3, 1) := by decide +kernel
theorem dX9_lines_40 : decode cX9_lines 40 = .ok (.sipush 144, 3) := by decide +kernel
theorem dX9_lines_43 : decode cX9_lines 43 = .ok (.if_icmp .ge 26, 3) := by decide +kernel
theorem dX9_lines_46 : decode cX9_lines 46 = .ok (.aload_n 0, 1) := by decide +kernel
theorem dX9_lines_47 : decode cX9_lines 47 = .ok (.getfield 37, 3) := by decide +kernel
theorem dX9_lines_50 : decode cX9_lines 50 = .ok (.iload_n 3, 1) := by decide +kernel
theorem dX9_lines_51 : decode cX9_lines 51 = .ok (.baload, 1) := by decide +kernel
theorem dX9_lines_52 : decode cX9_lines 52 = .ok (.ifCond .ne 11, 3) := by decide +kernel
theorem dX9_lines_55 : decode cX9_lines 55 = .ok (.iinc 2 1, 3) := by decide +kernel
theorem dX9_lines_58 : decode cX9_lines 58 = .ok (.aload_n 0, 1) := by decide +kernel
theorem dX9_lines_59 : decode cX9_lines 59 = .ok (.iload_n 3, 1) := by decide +kernel
theorem dX9_lines_60 : decode cX9_lines 60 = .ok (.invokevirtual 139, 3) := by decide +kernel
theorem dX9_lines_63 : decode cX9_lines 63 = .ok (.iinc 3 1, 3) := by decide +kernel
theorem dX9_lines_66 : decode cX9_lines 66 = .ok (.goto (-27), 3) := by decide +kernel
theorem dX9_lines_69 : decode cX9_lines 69 = .ok (.iload_n 2, 1) := by decide +kernel
theorem dX9_lines_70 : decode cX9_lines 70 = .ok (.ireturn, 1) := by decide +kernel
set_option maxRecDepth 20000 in
theorem ggX9_meet_X9_isOn : GoodIn wsX9_meet wsX9_isOn := goodIn_r _ [6, 7, 8, 5, 9] (by decide +kernel) (by decide +kernel)
set_option maxRecDepth 20000 in
theorem gX9_meet_X9_isOn : GoodIn wsX9_meet (va_wsS RX9 80 yX9_isOn wsX9_isOn) := goodIn_app (goodIn_of _ (by decide +kernel)) ggX9_meet_X9_isOn
theorem dX9_meet_0 : decode cX9_meet 0 = .ok (.aload_n 0, 1) := by decide +kernel
theorem dX9_meet_1 : decode cX9_meet 1 = .ok (.getfield 37, 3) := by decide +kernel
theorem dX9_meet_4 : decode cX9_meet 4 = .ok (.iload_n 1, 1) := by decide +kernel
theorem dX9_meet_5 : decode cX9_meet 5 = .ok (.iconst 1, 1) := by decide +kernel
theorem dX9_meet_6 : decode cX9_meet 6 = .ok (.bastore, 1) := by decide +kernel
theorem dX9_meet_7 : decode cX9_meet 7 = .ok (.aload_n 0, 1) := by decide +kernel
theorem dX9_meet_8 : decode cX9_meet 8 = .ok (.getfield 41, 3) := by decide +kernel
theorem dX9_meet_11 : decode cX9_meet 11 = .ok (.iconst 0, 1) := by decide +kernel
theorem dX9_meet_12 : decode cX9_meet 12 = .ok (.iload_n 1, 1) := by decide +kernel
theorem dX9_meet_13 : decode cX9_meet 13 = .ok (.iastore, 1) := by decide +kernel
theorem dX9_meet_14 : decode cX9_meet 14 = .ok (.iconst 1, 1) := by decide +kernel
theorem dX9_meet_15 : decode cX9_meet 15 = .ok (.istore_n 2, 1) := by decide +kernel
theorem dX9_meet_16 : decode cX9_meet 16 = .ok (.iconst 0, 1) := by decide +kernel
theorem dX9_meet_17 : decode cX9_meet 17 = .ok (.istore_n 3, 1) := by decide +kernel
theorem dX9_meet_18 : decode cX9_meet 18 = .ok (.iload_n 3, 1) := by decide +kernel
theorem dX9_meet_19 : decode cX9_meet 19 = .ok (.iload_n 2, 1) := by decide +kernel
theorem dX9_meet_20 : decode cX9_meet 20 = .ok (.if_icmp .ge 146, 3) := by decide +kernel
theorem dX9_meet_23 : decode cX9_meet 23 = .ok (.iconst 0, 1) := by decide +kernel
theorem dX9_meet_24 : decode cX9_meet 24 = .ok (.istore 4, 2) := by decide +kernel
theorem dX9_meet_26 : decode cX9_meet 26 = .ok (.iload 4, 2) := by decide +kernel
theorem dX9_meet_28 : decode cX9_meet 28 = .ok (.iconst 4, 1) := by decide +kernel
theorem dX9_meet_29 : decode cX9_meet 29 = .ok (.if_icmp .ge 131, 3) := by decide +kernel
theorem dX9_meet_32 : decode cX9_meet 32 = .ok (.aload_n 0, 1) := by decide +kernel
theorem dX9_meet_33 : decode cX9_meet 33 = .ok (.getfield 41, 3) := by decide +kernel
theorem dX9_meet_36 : decode cX9_meet 36 = .ok (.iload_n 3, 1) := by decide +kernel
theorem dX9_meet_37 : decode cX9_meet 37 = .ok (.iaload, 1) := by decide +kernel
theorem dX9_meet_38 : decode cX9_meet 38 = .ok (.bipush 12, 2) := by decide +kernel
theorem dX9_meet_40 : decode cX9_meet 40 = .ok (.irem, 1) := by decide +kernel
theorem dX9_meet_41 : decode cX9_meet 41 = .ok (.iload 4, 2) := by decide +kernel
theorem dX9_meet_43 : decode cX9_meet 43 = .ok (.iconst 1, 1) := by decide +kernel
theorem dX9_meet_44 : decode cX9_meet 44 = .ok (.if_icmp .ne 7, 3) := by decide +kernel
theorem dX9_meet_47 : decode cX9_meet 47 = .ok (.iconst (-1), 1) := by decide +kernel
theorem dX9_meet_48 : decode cX9_meet 48 = .ok (.goto 14, 3) := by decide +kernel
theorem dX9_meet_51 : decode cX9_meet 51 = .ok (.iload 4, 2) := by decide +kernel
theorem dX9_meet_53 : decode cX9_meet 53 = .ok (.iconst 2, 1) := by decide +kernel
theorem dX9_meet_54 : decode cX9_meet 54 = .ok (.if_icmp .ne 7, 3) := by decide +kernel
theorem dX9_meet_57 : decode cX9_meet 57 = .ok (.iconst 1, 1) := by decide +kernel
theorem dX9_meet_58 : decode cX9_meet 58 = .ok (.goto 4, 3) := by decide +kernel
theorem dX9_meet_61 : decode cX9_meet 61 = .ok (.iconst 0, 1) := by decide +kernel
theorem dX9_meet_62 : decode cX9_meet 62 = .ok (.iadd, 1) := by decide +kernel
theorem dX9_meet_63 : decode cX9_meet 63 = .ok (.istore 5, 2) := by decide +kernel
theorem dX9_meet_65 : decode cX9_meet 65 = .ok (.aload_n 0, 1) := by decide +kernel
theorem dX9_meet_66 : decode cX9_meet 66 = .ok (.getfield 41, 3) := by decide +kernel
theorem dX9_meet_69 : decode cX9_meet 69 = .ok (.iload_n 3, 1) := by decide +kernel
theorem dX9_meet_70 : decode cX9_meet 70 = .ok (.iaload, 1) := by decide +kernel
theorem dX9_meet_71 : decode cX9_meet 71 = .ok (.bipush 12, 2) := by decide +kernel
theorem dX9_meet_73 : decode cX9_meet 73 = .ok (.idiv, 1) := by decide +kernel
theorem dX9_meet_74 : decode cX9_meet 74 = .ok (.iload 4, 2) := by decide +kernel
theorem dX9_meet_76 : decode cX9_meet 76 = .ok (.ifCond .ne 7, 3) := by decide +kernel
theorem dX9_meet_79 : decode cX9_meet 79 = .ok (.iconst (-1), 1) := by decide +kernel
theorem dX9_meet_80 : decode cX9_meet 80 = .ok (.goto 14, 3) := by decide +kernel
theorem dX9_meet_83 : decode cX9_meet 83 = .ok (.iload 4, 2) := by decide +kernel
theorem dX9_meet_85 : decode cX9_meet 85 = .ok (.iconst 3, 1) := by decide +kernel
theorem dX9_meet_86 : decode cX9_meet 86 = .ok (.if_icmp .ne 7, 3) := by decide +kernel
theorem dX9_meet_89 : decode cX9_meet 89 = .ok (.iconst 1, 1) := by decide +kernel
theorem dX9_meet_90 : decode cX9_meet 90 = .ok (.goto 4, 3) := by decide +kernel
theorem dX9_meet_93 : decode cX9_meet 93 = .ok (.iconst 0, 1) := by decide +kernel
theorem dX9_meet_94 : decode cX9_meet 94 = .ok (.iadd, 1) := by decide +kernel
theorem dX9_meet_95 : decode cX9_meet 95 = .ok (.istore 6, 2) := by decide +kernel
theorem dX9_meet_97 : decode cX9_meet 97 = .ok (.iload 5, 2) := by decide +kernel
theorem dX9_meet_99 : decode cX9_meet 99 = .ok (.iload 6, 2) := by decide +kernel
theorem dX9_meet_101 : decode cX9_meet 101 = .ok (.invokestatic 80, 3) := by decide +kernel
theorem dX9_meet_104 : decode cX9_meet 104 = .ok (.ifCond .eq 50, 3) := by decide +kernel
theorem dX9_meet_107 : decode cX9_meet 107 = .ok (.aload_n 0, 1) := by decide +kernel
theorem dX9_meet_108 : decode cX9_meet 108 = .ok (.getfield 37, 3) := by decide +kernel
theorem dX9_meet_111 : decode cX9_meet 111 = .ok (.bipush 12, 2) := by decide +kernel
theorem dX9_meet_113 : decode cX9_meet 113 = .ok (.iload 6, 2) := by decide +kernel
theorem dX9_meet_115 : decode cX9_meet 115 = .ok (.imul, 1) := by decide +kernel
theorem dX9_meet_116 : decode cX9_meet 116 = .ok (.iload 5, 2) := by decide +kernel
theorem dX9_meet_118 : decode cX9_meet 118 = .ok (.iadd, 1) := by decide +kernel
theorem dX9_meet_119 : decode cX9_meet 119 = .ok (.baload, 1) := by decide +kernel
theorem dX9_meet_120 : decode cX9_meet 120 = .ok (.ifCond .ne 34, 3) := by decide +kernel
theorem dX9_meet_123 : decode cX9_meet 123 = .ok (.aload_n 0, 1) := by decide +kernel
theorem dX9_meet_124 : decode cX9_meet 124 = .ok (.getfield 37, 3) := by decide +kernel
theorem dX9_meet_127 : decode cX9_meet 127 = .ok (.bipush 12, 2) := by decide +kernel
theorem dX9_meet_129 : decode cX9_meet 129 = .ok (.iload 6, 2) := by decide +kernel
theorem dX9_meet_131 : decode cX9_meet 131 = .ok (.imul, 1) := by decide +kernel
theorem dX9_meet_132 : decode cX9_meet 132 = .ok (.iload 5, 2) := by decide +kernel
theorem dX9_meet_134 : decode cX9_meet 134 = .ok (.iadd, 1) := by decide +kernel
theorem dX9_meet_135 : decode cX9_meet 135 = .ok (.iconst 1, 1) := by decide +kernel
theorem dX9_meet_136 : decode cX9_meet 136 = .ok (.bastore, 1) := by decide +kernel
theorem dX9_meet_137 : decode cX9_meet 137 = .ok (.aload_n 0, 1) := by decide +kernel
theorem dX9_meet_138 : decode cX9_meet 138 = .ok (.getfield 41, 3) := by decide +kernel
theorem dX9_meet_141 : decode cX9_meet 141 = .ok (.iload_n 2, 1) := by decide +kernel
theorem dX9_meet_142 : decode cX9_meet 142 = .ok (.bipush 12, 2) := by decide +kernel
theorem dX9_meet_144 : decode cX9_meet 144 = .ok (.iload 6, 2) := by decide +kernel
theorem dX9_meet_146 : decode cX9_meet 146 = .ok (.imul, 1) := by decide +kernel
theorem dX9_meet_147 : decode cX9_meet 147 = .ok (.iload 5, 2) := by decide +kernel
theorem dX9_meet_149 : decode cX9_meet 149 = .ok (.iadd, 1) := by decide +kernel
theorem dX9_meet_150 : decode cX9_meet 150 = .ok (.iastore, 1) := by decide +kernel
theorem dX9_meet_151 : decode cX9_meet 151 = .ok (.iinc 2 1, 3) := by decide +kernel
theorem dX9_meet_154 : decode cX9_meet 154 = .ok (.iinc 4 1, 3) := by decide +kernel
theorem dX9_meet_157 : decode cX9_meet 157 = .ok (.goto (-131), 3) := by decide +kernel
theorem dX9_meet_160 : decode cX9_meet 160 = .ok (.iinc 3 1, 3) := by decide +kernel
theorem dX9_meet_163 : decode cX9_meet 163 = .ok (.goto (-145), 3) := by decide +kernel
theorem dX9_meet_166 : decode cX9_meet 166 = .ok (.return_, 1) := by decide +kernel
set_option maxRecDepth 20000 in
theorem ggX9_way_X9_isWay : GoodIn wsX9_way wsX9_isWay := goodIn_r _ [7, 8, 9, 6, 10] (by decide +kernel) (by decide +kernel)
set_option maxRecDepth 20000 in
theorem gX9_way_X9_isWay : GoodIn wsX9_way (va_wsS RX9 142 yX9_isWay wsX9_isWay) := goodIn_app (goodIn_of _ (by decide +kernel)) ggX9_way_X9_isWay
set_option maxRecDepth 20000 in
theorem ggX9_way_X9_noteOf : GoodIn wsX9_way wsX9_noteOf := goodIn_r _ [14, 1, 2, 3, 46, 47, 48, 49, 50, 51, 52, 53, 54, 55, 56, 57, 58, 59, 60, 61] (by decide +kernel) (by decide +kernel)
set_option maxRecDepth 20000 in
theorem gX9_way_X9_noteOf : GoodIn wsX9_way (wsV RX9 145 RX9 yX9_noteOf wsX9_noteOf) := goodIn_app (goodIn_of _ (by decide +kernel)) ggX9_way_X9_noteOf
set_option maxRecDepth 20000 in
theorem ggX9_way_X9_still : GoodIn wsX9_way wsX9_still := goodIn_r _ [18, 19, 20, 21, 22, 6, 23, 24, 25, 26, 27, 28, 46, 47, 48, 49, 50, 51, 52, 53, 54, 55, 56, 57, 58, 59, 60, 61] (by decide +kernel) (by decide +kernel)
set_option maxRecDepth 20000 in
theorem gX9_way_X9_still : GoodIn wsX9_way (wsV RX9 148 RX9 yX9_still wsX9_still) := goodIn_app (goodIn_of _ (by decide +kernel)) ggX9_way_X9_still
set_option maxRecDepth 20000 in
theorem ggX9_way_X9_lines : GoodIn wsX9_way wsX9_lines := goodIn_r _ [32, 33, 20, 21, 22, 6, 23, 19, 24, 25, 26, 27, 28, 34, 35, 36, 37, 38, 39, 40, 41, 8, 9, 10, 46, 47, 48, 49, 50, 51, 52, 53, 54, 55, 56, 57, 58, 59, 60, 61] (by decide +kernel) (by decide +kernel)
set_option maxRecDepth 20000 in
theorem gX9_way_X9_lines : GoodIn wsX9_way (wsV RX9 151 RX9 yX9_lines wsX9_lines) := goodIn_app (goodIn_of _ (by decide +kernel)) ggX9_way_X9_lines
set_option maxRecDepth 20000 in
theorem ggX9_way_X9_isHeld : GoodIn wsX9_way wsX9_isHeld := goodIn_r _ [45, 19, 24, 25, 26, 6, 27, 28, 46, 47, 48, 49, 50, 51, 52, 53, 54, 55, 56, 57, 58, 59, 60, 61] (by decide +kernel) (by decide +kernel)
set_option maxRecDepth 20000 in
theorem gX9_way_X9_isHeld : GoodIn wsX9_way (wsV RX9 66 RX9 yX9_isHeld wsX9_isHeld) := goodIn_app (goodIn_of _ (by decide +kernel)) ggX9_way_X9_isHeld
theorem dX9_way_0 : decode cX9_way 0 = .ok (.iload_n 1, 1) := by decide +kernel
theorem dX9_way_1 : decode cX9_way 1 = .ok (.invokestatic 142, 3) := by decide +kernel
theorem dX9_way_4 : decode cX9_way 4 = .ok (.ifCond .ne 5, 3) := by decide +kernel
theorem dX9_way_7 : decode cX9_way 7 = .ok (.iconst (-1), 1) := by decide +kernel
theorem dX9_way_8 : decode cX9_way 8 = .ok (.ireturn, 1) := by decide +kernel
theorem dX9_way_9 : decode cX9_way 9 = .ok (.iload_n 2, 1) := by decide +kernel
theorem dX9_way_10 : decode cX9_way 10 = .ok (.tableswitch 100 0 7 #[46, 53, 60, 67, 73, 80, 73, 86], 46) := by decide +kernel
theorem dX9_way_56 : decode cX9_way 56 = .ok (.aload_n 0, 1) := by decide +kernel
theorem dX9_way_57 : decode cX9_way 57 = .ok (.getfield 7, 3) := by decide +kernel
theorem dX9_way_60 : decode cX9_way 60 = .ok (.iload_n 1, 1) := by decide +kernel
theorem dX9_way_61 : decode cX9_way 61 = .ok (.iaload, 1) := by decide +kernel
theorem dX9_way_62 : decode cX9_way 62 = .ok (.ireturn, 1) := by decide +kernel
theorem dX9_way_63 : decode cX9_way 63 = .ok (.aload_n 0, 1) := by decide +kernel
theorem dX9_way_64 : decode cX9_way 64 = .ok (.getfield 13, 3) := by decide +kernel
theorem dX9_way_67 : decode cX9_way 67 = .ok (.iload_n 1, 1) := by decide +kernel
theorem dX9_way_68 : decode cX9_way 68 = .ok (.iaload, 1) := by decide +kernel
theorem dX9_way_69 : decode cX9_way 69 = .ok (.ireturn, 1) := by decide +kernel
theorem dX9_way_70 : decode cX9_way 70 = .ok (.aload_n 0, 1) := by decide +kernel
theorem dX9_way_71 : decode cX9_way 71 = .ok (.getfield 16, 3) := by decide +kernel
theorem dX9_way_74 : decode cX9_way 74 = .ok (.iload_n 1, 1) := by decide +kernel
theorem dX9_way_75 : decode cX9_way 75 = .ok (.iaload, 1) := by decide +kernel
theorem dX9_way_76 : decode cX9_way 76 = .ok (.ireturn, 1) := by decide +kernel
theorem dX9_way_77 : decode cX9_way 77 = .ok (.aload_n 0, 1) := by decide +kernel
theorem dX9_way_78 : decode cX9_way 78 = .ok (.iload_n 1, 1) := by decide +kernel
theorem dX9_way_79 : decode cX9_way 79 = .ok (.invokevirtual 145, 3) := by decide +kernel
theorem dX9_way_82 : decode cX9_way 82 = .ok (.ireturn, 1) := by decide +kernel
theorem dX9_way_83 : decode cX9_way 83 = .ok (.aload_n 0, 1) := by decide +kernel
theorem dX9_way_84 : decode cX9_way 84 = .ok (.iload_n 1, 1) := by decide +kernel
theorem dX9_way_85 : decode cX9_way 85 = .ok (.iload_n 2, 1) := by decide +kernel
theorem dX9_way_86 : decode cX9_way 86 = .ok (.invokevirtual 148, 3) := by decide +kernel
theorem dX9_way_89 : decode cX9_way 89 = .ok (.ireturn, 1) := by decide +kernel
theorem dX9_way_90 : decode cX9_way 90 = .ok (.aload_n 0, 1) := by decide +kernel
theorem dX9_way_91 : decode cX9_way 91 = .ok (.iload_n 1, 1) := by decide +kernel
theorem dX9_way_92 : decode cX9_way 92 = .ok (.invokevirtual 151, 3) := by decide +kernel
theorem dX9_way_95 : decode cX9_way 95 = .ok (.ireturn, 1) := by decide +kernel
theorem dX9_way_96 : decode cX9_way 96 = .ok (.aload_n 0, 1) := by decide +kernel
theorem dX9_way_97 : decode cX9_way 97 = .ok (.iload_n 1, 1) := by decide +kernel
theorem dX9_way_98 : decode cX9_way 98 = .ok (.invokevirtual 66, 3) := by decide +kernel
theorem dX9_way_101 : decode cX9_way 101 = .ok (.ifCond .eq 7, 3) := by decide +kernel
theorem dX9_way_104 : decode cX9_way 104 = .ok (.iconst 0, 1) := by decide +kernel
theorem dX9_way_105 : decode cX9_way 105 = .ok (.goto 4, 3) := by decide +kernel
theorem dX9_way_108 : decode cX9_way 108 = .ok (.iconst 1, 1) := by decide +kernel
theorem dX9_way_109 : decode cX9_way 109 = .ok (.ireturn, 1) := by decide +kernel
theorem dX9_way_110 : decode cX9_way 110 = .ok (.bipush (-2), 2) := by decide +kernel
theorem dX9_way_112 : decode cX9_way 112 = .ok (.ireturn, 1) := by decide +kernel
set_option maxRecDepth 20000 in
theorem ggX9_swing_X9_isWay : GoodIn wsX9_swing wsX9_isWay := goodIn_r _ [4, 5, 6, 3, 7] (by decide +kernel) (by decide +kernel)
set_option maxRecDepth 20000 in
theorem gX9_swing_X9_isWay : GoodIn wsX9_swing (va_wsS RX9 142 yX9_isWay wsX9_isWay) := goodIn_app (goodIn_of _ (by decide +kernel)) ggX9_swing_X9_isWay
set_option maxRecDepth 20000 in
theorem ggX9_swing_X9_isOn : GoodIn wsX9_swing wsX9_isOn := goodIn_r _ [10, 5, 6, 3, 7] (by decide +kernel) (by decide +kernel)
set_option maxRecDepth 20000 in
theorem gX9_swing_X9_isOn : GoodIn wsX9_swing (va_wsS RX9 80 yX9_isOn wsX9_isOn) := goodIn_app (goodIn_of _ (by decide +kernel)) ggX9_swing_X9_isOn
set_option maxRecDepth 20000 in
theorem ggX9_swing_X9_swingAt : GoodIn wsX9_swing wsX9_swingAt := goodIn_r _ [14, 15, 16, 17, 18, 19, 20, 21, 22, 23, 24, 25, 26, 27, 28, 29, 30, 31] (by decide +kernel) (by decide +kernel)
set_option maxRecDepth 20000 in
theorem gX9_swing_X9_swingAt : GoodIn wsX9_swing (wsV RX9 63 RX9 yX9_swingAt wsX9_swingAt) := goodIn_app (goodIn_of _ (by decide +kernel)) ggX9_swing_X9_swingAt
theorem dX9_swing_0 : decode cX9_swing 0 = .ok (.iload_n 1, 1) := by decide +kernel
theorem dX9_swing_1 : decode cX9_swing 1 = .ok (.invokestatic 142, 3) := by decide +kernel
theorem dX9_swing_4 : decode cX9_swing 4 = .ok (.ifCond .eq 25, 3) := by decide +kernel
theorem dX9_swing_7 : decode cX9_swing 7 = .ok (.iload_n 2, 1) := by decide +kernel
theorem dX9_swing_8 : decode cX9_swing 8 = .ok (.iload_n 3, 1) := by decide +kernel
theorem dX9_swing_9 : decode cX9_swing 9 = .ok (.invokestatic 80, 3) := by decide +kernel
theorem dX9_swing_12 : decode cX9_swing 12 = .ok (.ifCond .eq 17, 3) := by decide +kernel
theorem dX9_swing_15 : decode cX9_swing 15 = .ok (.aload_n 0, 1) := by decide +kernel
theorem dX9_swing_16 : decode cX9_swing 16 = .ok (.iload_n 1, 1) := by decide +kernel
theorem dX9_swing_17 : decode cX9_swing 17 = .ok (.bipush 12, 2) := by decide +kernel
theorem dX9_swing_19 : decode cX9_swing 19 = .ok (.iload_n 3, 1) := by decide +kernel
theorem dX9_swing_20 : decode cX9_swing 20 = .ok (.imul, 1) := by decide +kernel
theorem dX9_swing_21 : decode cX9_swing 21 = .ok (.iload_n 2, 1) := by decide +kernel
theorem dX9_swing_22 : decode cX9_swing 22 = .ok (.iadd, 1) := by decide +kernel
theorem dX9_swing_23 : decode cX9_swing 23 = .ok (.invokevirtual 63, 3) := by decide +kernel
theorem dX9_swing_26 : decode cX9_swing 26 = .ok (.goto 4, 3) := by decide +kernel
theorem dX9_swing_29 : decode cX9_swing 29 = .ok (.iconst (-1), 1) := by decide +kernel
theorem dX9_swing_30 : decode cX9_swing 30 = .ok (.ireturn, 1) := by decide +kernel
set_option maxRecDepth 20000 in
theorem ggX9_sounds_X9_isBow : GoodIn wsX9_sounds wsX9_isBow := goodIn_r _ [4, 5, 6, 3, 7] (by decide +kernel) (by decide +kernel)
set_option maxRecDepth 20000 in
theorem gX9_sounds_X9_isBow : GoodIn wsX9_sounds (va_wsS RX9 99 yX9_isBow wsX9_isBow) := goodIn_app (goodIn_of _ (by decide +kernel)) ggX9_sounds_X9_isBow
set_option maxRecDepth 20000 in
theorem ggX9_sounds_X9_bowPlace : GoodIn wsX9_sounds wsX9_bowPlace := goodIn_r _ [10] (by decide +kernel) (by decide +kernel)
set_option maxRecDepth 20000 in
theorem gX9_sounds_X9_bowPlace : GoodIn wsX9_sounds (va_wsS RX9 74 yX9_bowPlace wsX9_bowPlace) := goodIn_app (goodIn_of _ (by decide +kernel)) ggX9_sounds_X9_bowPlace
set_option maxRecDepth 20000 in
theorem ggX9_sounds_X9_soundsAt : GoodIn wsX9_sounds wsX9_soundsAt := goodIn_r _ [14, 15, 16, 17, 3, 18, 19, 20, 21, 22, 23, 24, 25, 26, 27, 28, 29, 30, 31, 32, 33, 34, 35, 36, 37, 38, 39, 40, 41, 42, 43, 44] (by decide +kernel) (by decide +kernel)
set_option maxRecDepth 20000 in
theorem gX9_sounds_X9_soundsAt : GoodIn wsX9_sounds (wsV RX9 77 RX9 yX9_soundsAt wsX9_soundsAt) := goodIn_app (goodIn_of _ (by decide +kernel)) ggX9_sounds_X9_soundsAt
theorem dX9_sounds_0 : decode cX9_sounds 0 = .ok (.iload_n 1, 1) := by decide +kernel
theorem dX9_sounds_1 : decode cX9_sounds 1 = .ok (.iload_n 2, 1) := by decide +kernel
theorem dX9_sounds_2 : decode cX9_sounds 2 = .ok (.invokestatic 99, 3) := by decide +kernel
theorem dX9_sounds_5 : decode cX9_sounds 5 = .ok (.ifCond .eq 15, 3) := by decide +kernel
theorem dX9_sounds_8 : decode cX9_sounds 8 = .ok (.aload_n 0, 1) := by decide +kernel
theorem dX9_sounds_9 : decode cX9_sounds 9 = .ok (.iload_n 1, 1) := by decide +kernel
theorem dX9_sounds_10 : decode cX9_sounds 10 = .ok (.iload_n 2, 1) := by decide +kernel
theorem dX9_sounds_11 : decode cX9_sounds 11 = .ok (.invokestatic 74, 3) := by decide +kernel
theorem dX9_sounds_14 : decode cX9_sounds 14 = .ok (.invokevirtual 77, 3) := by decide +kernel
theorem dX9_sounds_17 : decode cX9_sounds 17 = .ok (.goto 4, 3) := by decide +kernel
theorem dX9_sounds_20 : decode cX9_sounds 20 = .ok (.iconst (-1), 1) := by decide +kernel
theorem dX9_sounds_21 : decode cX9_sounds 21 = .ok (.ireturn, 1) := by decide +kernel
set_option maxRecDepth 20000 in
theorem ggX9_why_X9_isWay : GoodIn wsX9_why wsX9_isWay := goodIn_r _ [5, 6, 7, 4, 8] (by decide +kernel) (by decide +kernel)
set_option maxRecDepth 20000 in
theorem gX9_why_X9_isWay : GoodIn wsX9_why (va_wsS RX9 142 yX9_isWay wsX9_isWay) := goodIn_app (goodIn_of _ (by decide +kernel)) ggX9_why_X9_isWay
set_option maxRecDepth 20000 in
theorem ggX9_why_X9_isBow : GoodIn wsX9_why wsX9_isBow := goodIn_r _ [11, 6, 7, 4, 8] (by decide +kernel) (by decide +kernel)
set_option maxRecDepth 20000 in
theorem gX9_why_X9_isBow : GoodIn wsX9_why (va_wsS RX9 99 yX9_isBow wsX9_isBow) := goodIn_app (goodIn_of _ (by decide +kernel)) ggX9_why_X9_isBow
set_option maxRecDepth 20000 in
theorem ggX9_why_X9_bowPlace : GoodIn wsX9_why wsX9_bowPlace := goodIn_r _ [14] (by decide +kernel) (by decide +kernel)
set_option maxRecDepth 20000 in
theorem gX9_why_X9_bowPlace : GoodIn wsX9_why (va_wsS RX9 74 yX9_bowPlace wsX9_bowPlace) := goodIn_app (goodIn_of _ (by decide +kernel)) ggX9_why_X9_bowPlace
set_option maxRecDepth 20000 in
theorem ggX9_why_X9_isHeld : GoodIn wsX9_why wsX9_isHeld := goodIn_r _ [18, 1, 19, 20, 21, 4, 22, 23, 32, 33, 34, 35, 36, 37, 38, 39, 40, 41, 42, 43, 44, 45, 46, 47] (by decide +kernel) (by decide +kernel)
set_option maxRecDepth 20000 in
theorem gX9_why_X9_isHeld : GoodIn wsX9_why (wsV RX9 66 RX9 yX9_isHeld wsX9_isHeld) := goodIn_app (goodIn_of _ (by decide +kernel)) ggX9_why_X9_isHeld
set_option maxRecDepth 20000 in
theorem ggX9_why_X9_swingAt : GoodIn wsX9_why wsX9_swingAt := goodIn_r _ [22, 23, 32, 33, 34, 35, 36, 37, 38, 39, 40, 41, 42, 43, 44, 45, 46, 47] (by decide +kernel) (by decide +kernel)
set_option maxRecDepth 20000 in
theorem gX9_why_X9_swingAt : GoodIn wsX9_why (wsV RX9 63 RX9 yX9_swingAt wsX9_swingAt) := goodIn_app (goodIn_of _ (by decide +kernel)) ggX9_why_X9_swingAt
set_option maxRecDepth 20000 in
theorem ggX9_why_X9_soundsAt : GoodIn wsX9_why wsX9_soundsAt := goodIn_r _ [27, 28, 29, 30, 4, 31, 1, 15, 16, 17, 18, 19, 20, 21, 22, 23, 32, 33, 34, 35, 36, 37, 38, 39, 40, 41, 42, 43, 44, 45, 46, 47] (by decide +kernel) (by decide +kernel)
set_option maxRecDepth 20000 in
theorem gX9_why_X9_soundsAt : GoodIn wsX9_why (wsV RX9 77 RX9 yX9_soundsAt wsX9_soundsAt) := goodIn_app (goodIn_of _ (by decide +kernel)) ggX9_why_X9_soundsAt
theorem dX9_why_0 : decode cX9_why 0 = .ok (.iload_n 1, 1) := by decide +kernel
theorem dX9_why_1 : decode cX9_why 1 = .ok (.invokestatic 142, 3) := by decide +kernel
theorem dX9_why_4 : decode cX9_why 4 = .ok (.ifCond .eq 11, 3) := by decide +kernel
theorem dX9_why_7 : decode cX9_why 7 = .ok (.iload_n 2, 1) := by decide +kernel
theorem dX9_why_8 : decode cX9_why 8 = .ok (.iload_n 3, 1) := by decide +kernel
theorem dX9_why_9 : decode cX9_why 9 = .ok (.invokestatic 99, 3) := by decide +kernel
theorem dX9_why_12 : decode cX9_why 12 = .ok (.ifCond .ne 5, 3) := by decide +kernel
theorem dX9_why_15 : decode cX9_why 15 = .ok (.iconst (-1), 1) := by decide +kernel
theorem dX9_why_16 : decode cX9_why 16 = .ok (.ireturn, 1) := by decide +kernel
theorem dX9_why_17 : decode cX9_why 17 = .ok (.iload_n 2, 1) := by decide +kernel
theorem dX9_why_18 : decode cX9_why 18 = .ok (.iload_n 3, 1) := by decide +kernel
theorem dX9_why_19 : decode cX9_why 19 = .ok (.invokestatic 74, 3) := by decide +kernel
theorem dX9_why_22 : decode cX9_why 22 = .ok (.istore 4, 2) := by decide +kernel
theorem dX9_why_24 : decode cX9_why 24 = .ok (.aload_n 0, 1) := by decide +kernel
theorem dX9_why_25 : decode cX9_why 25 = .ok (.iload_n 1, 1) := by decide +kernel
theorem dX9_why_26 : decode cX9_why 26 = .ok (.invokevirtual 66, 3) := by decide +kernel
theorem dX9_why_29 : decode cX9_why 29 = .ok (.ifCond .eq 7, 3) := by decide +kernel
theorem dX9_why_32 : decode cX9_why 32 = .ok (.iconst 1, 1) := by decide +kernel
theorem dX9_why_33 : decode cX9_why 33 = .ok (.goto 40, 3) := by decide +kernel
theorem dX9_why_36 : decode cX9_why 36 = .ok (.aload_n 0, 1) := by decide +kernel
theorem dX9_why_37 : decode cX9_why 37 = .ok (.iload_n 1, 1) := by decide +kernel
theorem dX9_why_38 : decode cX9_why 38 = .ok (.iload 4, 2) := by decide +kernel
theorem dX9_why_40 : decode cX9_why 40 = .ok (.invokevirtual 63, 3) := by decide +kernel
theorem dX9_why_43 : decode cX9_why 43 = .ok (.aload_n 0, 1) := by decide +kernel
theorem dX9_why_44 : decode cX9_why 44 = .ok (.getfield 22, 3) := by decide +kernel
theorem dX9_why_47 : decode cX9_why 47 = .ok (.sipush 145, 3) := by decide +kernel
theorem dX9_why_50 : decode cX9_why 50 = .ok (.iaload, 1) := by decide +kernel
theorem dX9_why_51 : decode cX9_why 51 = .ok (.if_icmp .ge 7, 3) := by decide +kernel
theorem dX9_why_54 : decode cX9_why 54 = .ok (.iconst 2, 1) := by decide +kernel
theorem dX9_why_55 : decode cX9_why 55 = .ok (.goto 18, 3) := by decide +kernel
theorem dX9_why_58 : decode cX9_why 58 = .ok (.aload_n 0, 1) := by decide +kernel
theorem dX9_why_59 : decode cX9_why 59 = .ok (.iload 4, 2) := by decide +kernel
theorem dX9_why_61 : decode cX9_why 61 = .ok (.invokevirtual 77, 3) := by decide +kernel
theorem dX9_why_64 : decode cX9_why 64 = .ok (.iload_n 1, 1) := by decide +kernel
theorem dX9_why_65 : decode cX9_why 65 = .ok (.if_icmp .ne 7, 3) := by decide +kernel
theorem dX9_why_68 : decode cX9_why 68 = .ok (.iconst 0, 1) := by decide +kernel
theorem dX9_why_69 : decode cX9_why 69 = .ok (.goto 4, 3) := by decide +kernel
theorem dX9_why_72 : decode cX9_why 72 = .ok (.iconst 3, 1) := by decide +kernel
theorem dX9_why_73 : decode cX9_why 73 = .ok (.ireturn, 1) := by decide +kernel
set_option maxRecDepth 20000 in
theorem ggX9_possible_X9_isPossible : GoodIn wsX9_possible wsX9_isPossible := goodIn_r _ [5, 6, 7, 4, 8, 9, 10, 11, 12, 13, 14, 15, 16, 17, 18, 19, 20, 21, 22, 23, 24, 25, 26, 27, 28, 29, 30, 31, 32, 33, 34, 35, 36, 37, 38, 39, 40, 41, 42] (by decide +kernel) (by decide +kernel)
set_option maxRecDepth 20000 in
theorem gX9_possible_X9_isPossible : GoodIn wsX9_possible (wsV RX9 154 RX9 yX9_isPossible wsX9_isPossible) := goodIn_app (goodIn_of _ (by decide +kernel)) ggX9_possible_X9_isPossible
theorem dX9_possible_0 : decode cX9_possible 0 = .ok (.iload_n 1, 1) := by decide +kernel
theorem dX9_possible_1 : decode cX9_possible 1 = .ok (.ifCond .ge 6, 3) := by decide +kernel
theorem dX9_possible_4 : decode cX9_possible 4 = .ok (.bipush (-2), 2) := by decide +kernel
theorem dX9_possible_6 : decode cX9_possible 6 = .ok (.ireturn, 1) := by decide +kernel
theorem dX9_possible_7 : decode cX9_possible 7 = .ok (.iconst 0, 1) := by decide +kernel
theorem dX9_possible_8 : decode cX9_possible 8 = .ok (.istore_n 2, 1) := by decide +kernel
theorem dX9_possible_9 : decode cX9_possible 9 = .ok (.iconst 0, 1) := by decide +kernel
theorem dX9_possible_10 : decode cX9_possible 10 = .ok (.istore_n 3, 1) := by decide +kernel
theorem dX9_possible_11 : decode cX9_possible 11 = .ok (.iload_n 3, 1) := by decide +kernel
theorem dX9_possible_12 : decode cX9_possible 12 = .ok (.bipush 48, 2) := by decide +kernel
theorem dX9_possible_14 : decode cX9_possible 14 = .ok (.if_icmp .ge 27, 3) := by decide +kernel
theorem dX9_possible_17 : decode cX9_possible 17 = .ok (.aload_n 0, 1) := by decide +kernel
theorem dX9_possible_18 : decode cX9_possible 18 = .ok (.iload_n 3, 1) := by decide +kernel
theorem dX9_possible_19 : decode cX9_possible 19 = .ok (.invokevirtual 154, 3) := by decide +kernel
theorem dX9_possible_22 : decode cX9_possible 22 = .ok (.ifCond .eq 13, 3) := by decide +kernel
theorem dX9_possible_25 : decode cX9_possible 25 = .ok (.iload_n 2, 1) := by decide +kernel
theorem dX9_possible_26 : decode cX9_possible 26 = .ok (.iload_n 1, 1) := by decide +kernel
theorem dX9_possible_27 : decode cX9_possible 27 = .ok (.if_icmp .ne 5, 3) := by decide +kernel
theorem dX9_possible_30 : decode cX9_possible 30 = .ok (.iload_n 3, 1) := by decide +kernel
theorem dX9_possible_31 : decode cX9_possible 31 = .ok (.ireturn, 1) := by decide +kernel
theorem dX9_possible_32 : decode cX9_possible 32 = .ok (.iinc 2 1, 3) := by decide +kernel
theorem dX9_possible_35 : decode cX9_possible 35 = .ok (.iinc 3 1, 3) := by decide +kernel
theorem dX9_possible_38 : decode cX9_possible 38 = .ok (.goto (-27), 3) := by decide +kernel
theorem dX9_possible_41 : decode cX9_possible 41 = .ok (.bipush (-5), 2) := by decide +kernel
theorem dX9_possible_43 : decode cX9_possible 43 = .ok (.ireturn, 1) := by decide +kernel
set_option maxRecDepth 20000 in
theorem ggX9_waiting_X9_in : GoodIn wsX9_waiting wsX9_in := goodIn_r _ [5] (by decide +kernel) (by decide +kernel)
set_option maxRecDepth 20000 in
theorem gX9_waiting_X9_in : GoodIn wsX9_waiting (va_wsS RX9 55 yX9_in wsX9_in) := goodIn_app (goodIn_of _ (by decide +kernel)) ggX9_waiting_X9_in
set_option maxRecDepth 20000 in
theorem ggX9_waiting_X9_bowPlace : GoodIn wsX9_waiting wsX9_bowPlace := goodIn_r _ [8] (by decide +kernel) (by decide +kernel)
set_option maxRecDepth 20000 in
theorem gX9_waiting_X9_bowPlace : GoodIn wsX9_waiting (va_wsS RX9 74 yX9_bowPlace wsX9_bowPlace) := goodIn_app (goodIn_of _ (by decide +kernel)) ggX9_waiting_X9_bowPlace
set_option maxRecDepth 20000 in
theorem ggX9_waiting_X9_soundsAt : GoodIn wsX9_waiting wsX9_soundsAt := goodIn_r _ [12, 13, 14, 15, 4, 16, 1, 17, 18, 19, 20, 21, 22, 23, 24, 25, 26, 27, 28, 29, 30, 31, 32, 33, 34, 35, 36, 37, 38, 39, 40, 41] (by decide +kernel) (by decide +kernel)
set_option maxRecDepth 20000 in
theorem gX9_waiting_X9_soundsAt : GoodIn wsX9_waiting (wsV RX9 77 RX9 yX9_soundsAt wsX9_soundsAt) := goodIn_app (goodIn_of _ (by decide +kernel)) ggX9_waiting_X9_soundsAt
theorem dX9_waiting_0 : decode cX9_waiting 0 = .ok (.iload_n 1, 1) := by decide +kernel
theorem dX9_waiting_1 : decode cX9_waiting 1 = .ok (.ifCond .lt 12, 3) := by decide +kernel
theorem dX9_waiting_4 : decode cX9_waiting 4 = .ok (.iload_n 2, 1) := by decide +kernel
theorem dX9_waiting_5 : decode cX9_waiting 5 = .ok (.iconst 0, 1) := by decide +kernel
theorem dX9_waiting_6 : decode cX9_waiting 6 = .ok (.iconst 3, 1) := by decide +kernel
theorem dX9_waiting_7 : decode cX9_waiting 7 = .ok (.invokestatic 55, 3) := by decide +kernel
theorem dX9_waiting_10 : decode cX9_waiting 10 = .ok (.ifCond .ne 6, 3) := by decide +kernel
theorem dX9_waiting_13 : decode cX9_waiting 13 = .ok (.bipush (-2), 2) := by decide +kernel
theorem dX9_waiting_15 : decode cX9_waiting 15 = .ok (.ireturn, 1) := by decide +kernel
theorem dX9_waiting_16 : decode cX9_waiting 16 = .ok (.iload_n 1, 1) := by decide +kernel
theorem dX9_waiting_17 : decode cX9_waiting 17 = .ok (.aload_n 0, 1) := by decide +kernel
theorem dX9_waiting_18 : decode cX9_waiting 18 = .ok (.getfield 22, 3) := by decide +kernel
theorem dX9_waiting_21 : decode cX9_waiting 21 = .ok (.sipush 159, 3) := by decide +kernel
theorem dX9_waiting_24 : decode cX9_waiting 24 = .ok (.iaload, 1) := by decide +kernel
theorem dX9_waiting_25 : decode cX9_waiting 25 = .ok (.if_icmp .lt 6, 3) := by decide +kernel
theorem dX9_waiting_28 : decode cX9_waiting 28 = .ok (.bipush (-5), 2) := by decide +kernel
theorem dX9_waiting_30 : decode cX9_waiting 30 = .ok (.ireturn, 1) := by decide +kernel
theorem dX9_waiting_31 : decode cX9_waiting 31 = .ok (.sipush 160, 3) := by decide +kernel
theorem dX9_waiting_34 : decode cX9_waiting 34 = .ok (.iconst 3, 1) := by decide +kernel
theorem dX9_waiting_35 : decode cX9_waiting 35 = .ok (.iload_n 1, 1) := by decide +kernel
theorem dX9_waiting_36 : decode cX9_waiting 36 = .ok (.imul, 1) := by decide +kernel
theorem dX9_waiting_37 : decode cX9_waiting 37 = .ok (.iadd, 1) := by decide +kernel
theorem dX9_waiting_38 : decode cX9_waiting 38 = .ok (.istore_n 3, 1) := by decide +kernel
theorem dX9_waiting_39 : decode cX9_waiting 39 = .ok (.iload_n 2, 1) := by decide +kernel
theorem dX9_waiting_40 : decode cX9_waiting 40 = .ok (.iconst 3, 1) := by decide +kernel
theorem dX9_waiting_41 : decode cX9_waiting 41 = .ok (.if_icmp .ge 14, 3) := by decide +kernel
theorem dX9_waiting_44 : decode cX9_waiting 44 = .ok (.aload_n 0, 1) := by decide +kernel
theorem dX9_waiting_45 : decode cX9_waiting 45 = .ok (.getfield 22, 3) := by decide +kernel
theorem dX9_waiting_48 : decode cX9_waiting 48 = .ok (.iload_n 3, 1) := by decide +kernel
theorem dX9_waiting_49 : decode cX9_waiting 49 = .ok (.iload_n 2, 1) := by decide +kernel
theorem dX9_waiting_50 : decode cX9_waiting 50 = .ok (.iadd, 1) := by decide +kernel
theorem dX9_waiting_51 : decode cX9_waiting 51 = .ok (.iaload, 1) := by decide +kernel
theorem dX9_waiting_52 : decode cX9_waiting 52 = .ok (.goto 24, 3) := by decide +kernel
theorem dX9_waiting_55 : decode cX9_waiting 55 = .ok (.aload_n 0, 1) := by decide +kernel
theorem dX9_waiting_56 : decode cX9_waiting 56 = .ok (.aload_n 0, 1) := by decide +kernel
theorem dX9_waiting_57 : decode cX9_waiting 57 = .ok (.getfield 22, 3) := by decide +kernel
theorem dX9_waiting_60 : decode cX9_waiting 60 = .ok (.iload_n 3, 1) := by decide +kernel
theorem dX9_waiting_61 : decode cX9_waiting 61 = .ok (.iaload, 1) := by decide +kernel
theorem dX9_waiting_62 : decode cX9_waiting 62 = .ok (.aload_n 0, 1) := by decide +kernel
theorem dX9_waiting_63 : decode cX9_waiting 63 = .ok (.getfield 22, 3) := by decide +kernel
theorem dX9_waiting_66 : decode cX9_waiting 66 = .ok (.iload_n 3, 1) := by decide +kernel
theorem dX9_waiting_67 : decode cX9_waiting 67 = .ok (.iconst 1, 1) := by decide +kernel
theorem dX9_waiting_68 : decode cX9_waiting 68 = .ok (.iadd, 1) := by decide +kernel
theorem dX9_waiting_69 : decode cX9_waiting 69 = .ok (.iaload, 1) := by decide +kernel
theorem dX9_waiting_70 : decode cX9_waiting 70 = .ok (.invokestatic 74, 3) := by decide +kernel
theorem dX9_waiting_73 : decode cX9_waiting 73 = .ok (.invokevirtual 77, 3) := by decide +kernel
theorem dX9_waiting_76 : decode cX9_waiting 76 = .ok (.ireturn, 1) := by decide +kernel
set_option maxRecDepth 20000 in
theorem ggX9_sand_X9_in : GoodIn wsX9_sand wsX9_in := goodIn_r _ [5] (by decide +kernel) (by decide +kernel)
set_option maxRecDepth 20000 in
theorem gX9_sand_X9_in : GoodIn wsX9_sand (va_wsS RX9 55 yX9_in wsX9_in) := goodIn_app (goodIn_of _ (by decide +kernel)) ggX9_sand_X9_in
theorem dX9_sand_0 : decode cX9_sand 0 = .ok (.iload_n 2, 1) := by decide +kernel
theorem dX9_sand_1 : decode cX9_sand 1 = .ok (.iconst 0, 1) := by decide +kernel
theorem dX9_sand_2 : decode cX9_sand 2 = .ok (.bipush 11, 2) := by decide +kernel
theorem dX9_sand_4 : decode cX9_sand 4 = .ok (.invokestatic 55, 3) := by decide +kernel
theorem dX9_sand_7 : decode cX9_sand 7 = .ok (.ifCond .ne 5, 3) := by decide +kernel
theorem dX9_sand_10 : decode cX9_sand 10 = .ok (.iconst (-1), 1) := by decide +kernel
theorem dX9_sand_11 : decode cX9_sand 11 = .ok (.ireturn, 1) := by decide +kernel
theorem dX9_sand_12 : decode cX9_sand 12 = .ok (.iconst 0, 1) := by decide +kernel
theorem dX9_sand_13 : decode cX9_sand 13 = .ok (.istore_n 3, 1) := by decide +kernel
theorem dX9_sand_14 : decode cX9_sand 14 = .ok (.iconst 0, 1) := by decide +kernel
theorem dX9_sand_15 : decode cX9_sand 15 = .ok (.istore 4, 2) := by decide +kernel
theorem dX9_sand_17 : decode cX9_sand 17 = .ok (.iload 4, 2) := by decide +kernel
theorem dX9_sand_19 : decode cX9_sand 19 = .ok (.sipush 144, 3) := by decide +kernel
theorem dX9_sand_22 : decode cX9_sand 22 = .ok (.if_icmp .ge 46, 3) := by decide +kernel
theorem dX9_sand_25 : decode cX9_sand 25 = .ok (.iload_n 3, 1) := by decide +kernel
theorem dX9_sand_26 : decode cX9_sand 26 = .ok (.iload_n 1, 1) := by decide +kernel
theorem dX9_sand_27 : decode cX9_sand 27 = .ok (.ifCond .eq 11, 3) := by decide +kernel
theorem dX9_sand_30 : decode cX9_sand 30 = .ok (.iload 4, 2) := by decide +kernel
theorem dX9_sand_32 : decode cX9_sand 32 = .ok (.bipush 12, 2) := by decide +kernel
theorem dX9_sand_34 : decode cX9_sand 34 = .ok (.idiv, 1) := by decide +kernel
theorem dX9_sand_35 : decode cX9_sand 35 = .ok (.goto 8, 3) := by decide +kernel
theorem dX9_sand_38 : decode cX9_sand 38 = .ok (.iload 4, 2) := by decide +kernel
theorem dX9_sand_40 : decode cX9_sand 40 = .ok (.bipush 12, 2) := by decide +kernel
theorem dX9_sand_42 : decode cX9_sand 42 = .ok (.irem, 1) := by decide +kernel
theorem dX9_sand_43 : decode cX9_sand 43 = .ok (.iload_n 2, 1) := by decide +kernel
theorem dX9_sand_44 : decode cX9_sand 44 = .ok (.if_icmp .ne 15, 3) := by decide +kernel
theorem dX9_sand_47 : decode cX9_sand 47 = .ok (.aload_n 0, 1) := by decide +kernel
theorem dX9_sand_48 : decode cX9_sand 48 = .ok (.getfield 22, 3) := by decide +kernel
theorem dX9_sand_51 : decode cX9_sand 51 = .ok (.iconst 0, 1) := by decide +kernel
theorem dX9_sand_52 : decode cX9_sand 52 = .ok (.iload 4, 2) := by decide +kernel
theorem dX9_sand_54 : decode cX9_sand 54 = .ok (.iadd, 1) := by decide +kernel
theorem dX9_sand_55 : decode cX9_sand 55 = .ok (.iaload, 1) := by decide +kernel
theorem dX9_sand_56 : decode cX9_sand 56 = .ok (.goto 4, 3) := by decide +kernel
theorem dX9_sand_59 : decode cX9_sand 59 = .ok (.iconst 0, 1) := by decide +kernel
theorem dX9_sand_60 : decode cX9_sand 60 = .ok (.iadd, 1) := by decide +kernel
theorem dX9_sand_61 : decode cX9_sand 61 = .ok (.istore_n 3, 1) := by decide +kernel
theorem dX9_sand_62 : decode cX9_sand 62 = .ok (.iinc 4 1, 3) := by decide +kernel
theorem dX9_sand_65 : decode cX9_sand 65 = .ok (.goto (-48), 3) := by decide +kernel
theorem dX9_sand_68 : decode cX9_sand 68 = .ok (.iload_n 3, 1) := by decide +kernel
theorem dX9_sand_69 : decode cX9_sand 69 = .ok (.ireturn, 1) := by decide +kernel
set_option maxRecDepth 20000 in
theorem ggX9_possibles_X9_isPossible : GoodIn wsX9_possibles wsX9_isPossible := goodIn_r _ [5, 6, 7, 4, 8, 9, 10, 11, 12, 13, 14, 15, 16, 17, 18, 19, 20, 21, 22, 23, 24, 25, 26, 27, 28, 29, 30, 31, 32, 33, 34, 35, 36, 37, 38, 39, 40, 41, 42] (by decide +kernel) (by decide +kernel)
set_option maxRecDepth 20000 in
theorem gX9_possibles_X9_isPossible : GoodIn wsX9_possibles (wsV RX9 154 RX9 yX9_isPossible wsX9_isPossible) := goodIn_app (goodIn_of _ (by decide +kernel)) ggX9_possibles_X9_isPossible
theorem dX9_possibles_0 : decode cX9_possibles 0 = .ok (.iconst 0, 1) := by decide +kernel
theorem dX9_possibles_1 : decode cX9_possibles 1 = .ok (.istore_n 1, 1) := by decide +kernel
theorem dX9_possibles_2 : decode cX9_possibles 2 = .ok (.iconst 0, 1) := by decide +kernel
theorem dX9_possibles_3 : decode cX9_possibles 3 = .ok (.istore_n 2, 1) := by decide +kernel
theorem dX9_possibles_4 : decode cX9_possibles 4 = .ok (.iload_n 2, 1) := by decide +kernel
theorem dX9_possibles_5 : decode cX9_possibles 5 = .ok (.bipush 48, 2) := by decide +kernel
theorem dX9_possibles_7 : decode cX9_possibles 7 = .ok (.if_icmp .ge 25, 3) := by decide +kernel
theorem dX9_possibles_10 : decode cX9_possibles 10 = .ok (.iload_n 1, 1) := by decide +kernel
theorem dX9_possibles_11 : decode cX9_possibles 11 = .ok (.aload_n 0, 1) := by decide +kernel
theorem dX9_possibles_12 : decode cX9_possibles 12 = .ok (.iload_n 2, 1) := by decide +kernel
theorem dX9_possibles_13 : decode cX9_possibles 13 = .ok (.invokevirtual 154, 3) := by decide +kernel
theorem dX9_possibles_16 : decode cX9_possibles 16 = .ok (.ifCond .eq 7, 3) := by decide +kernel
theorem dX9_possibles_19 : decode cX9_possibles 19 = .ok (.iconst 1, 1) := by decide +kernel
theorem dX9_possibles_20 : decode cX9_possibles 20 = .ok (.goto 4, 3) := by decide +kernel
theorem dX9_possibles_23 : decode cX9_possibles 23 = .ok (.iconst 0, 1) := by decide +kernel
theorem dX9_possibles_24 : decode cX9_possibles 24 = .ok (.iadd, 1) := by decide +kernel
theorem dX9_possibles_25 : decode cX9_possibles 25 = .ok (.istore_n 1, 1) := by decide +kernel
theorem dX9_possibles_26 : decode cX9_possibles 26 = .ok (.iinc 2 1, 3) := by decide +kernel
theorem dX9_possibles_29 : decode cX9_possibles 29 = .ok (.goto (-25), 3) := by decide +kernel
theorem dX9_possibles_32 : decode cX9_possibles 32 = .ok (.iload_n 1, 1) := by decide +kernel
theorem dX9_possibles_33 : decode cX9_possibles 33 = .ok (.ireturn, 1) := by decide +kernel
theorem dX9_mostGrains_0 : decode cX9_mostGrains 0 = .ok (.iconst 0, 1) := by decide +kernel
theorem dX9_mostGrains_1 : decode cX9_mostGrains 1 = .ok (.istore_n 1, 1) := by decide +kernel
theorem dX9_mostGrains_2 : decode cX9_mostGrains 2 = .ok (.iconst 0, 1) := by decide +kernel
theorem dX9_mostGrains_3 : decode cX9_mostGrains 3 = .ok (.istore_n 2, 1) := by decide +kernel
theorem dX9_mostGrains_4 : decode cX9_mostGrains 4 = .ok (.iload_n 2, 1) := by decide +kernel
theorem dX9_mostGrains_5 : decode cX9_mostGrains 5 = .ok (.sipush 144, 3) := by decide +kernel
theorem dX9_mostGrains_8 : decode cX9_mostGrains 8 = .ok (.if_icmp .ge 34, 3) := by decide +kernel
theorem dX9_mostGrains_11 : decode cX9_mostGrains 11 = .ok (.aload_n 0, 1) := by decide +kernel
theorem dX9_mostGrains_12 : decode cX9_mostGrains 12 = .ok (.getfield 22, 3) := by decide +kernel
theorem dX9_mostGrains_15 : decode cX9_mostGrains 15 = .ok (.iconst 0, 1) := by decide +kernel
theorem dX9_mostGrains_16 : decode cX9_mostGrains 16 = .ok (.iload_n 2, 1) := by decide +kernel
theorem dX9_mostGrains_17 : decode cX9_mostGrains 17 = .ok (.iadd, 1) := by decide +kernel
theorem dX9_mostGrains_18 : decode cX9_mostGrains 18 = .ok (.iaload, 1) := by decide +kernel
theorem dX9_mostGrains_19 : decode cX9_mostGrains 19 = .ok (.iload_n 1, 1) := by decide +kernel
theorem dX9_mostGrains_20 : decode cX9_mostGrains 20 = .ok (.if_icmp .le 14, 3) := by decide +kernel
theorem dX9_mostGrains_23 : decode cX9_mostGrains 23 = .ok (.aload_n 0, 1) := by decide +kernel
theorem dX9_mostGrains_24 : decode cX9_mostGrains 24 = .ok (.getfield 22, 3) := by decide +kernel
theorem dX9_mostGrains_27 : decode cX9_mostGrains 27 = .ok (.iconst 0, 1) := by decide +kernel
theorem dX9_mostGrains_28 : decode cX9_mostGrains 28 = .ok (.iload_n 2, 1) := by decide +kernel
theorem dX9_mostGrains_29 : decode cX9_mostGrains 29 = .ok (.iadd, 1) := by decide +kernel
theorem dX9_mostGrains_30 : decode cX9_mostGrains 30 = .ok (.iaload, 1) := by decide +kernel
theorem dX9_mostGrains_31 : decode cX9_mostGrains 31 = .ok (.goto 4, 3) := by decide +kernel
theorem dX9_mostGrains_34 : decode cX9_mostGrains 34 = .ok (.iload_n 1, 1) := by decide +kernel
theorem dX9_mostGrains_35 : decode cX9_mostGrains 35 = .ok (.istore_n 1, 1) := by decide +kernel
theorem dX9_mostGrains_36 : decode cX9_mostGrains 36 = .ok (.iinc 2 1, 3) := by decide +kernel
theorem dX9_mostGrains_39 : decode cX9_mostGrains 39 = .ok (.goto (-35), 3) := by decide +kernel
theorem dX9_mostGrains_42 : decode cX9_mostGrains 42 = .ok (.iload_n 1, 1) := by decide +kernel
theorem dX9_mostGrains_43 : decode cX9_mostGrains 43 = .ok (.ireturn, 1) := by decide +kernel
set_option maxRecDepth 20000 in
theorem ggX9_count_X9_allGrains : GoodIn wsX9_count wsX9_allGrains := goodIn_r _ [8, 1, 41, 42, 43, 44, 45, 46, 47, 48, 49, 50, 51, 52, 53, 54, 55, 56] (by decide +kernel) (by decide +kernel)
set_option maxRecDepth 20000 in
theorem gX9_count_X9_allGrains : GoodIn wsX9_count (wsV RX9 92 RX9 yX9_allGrains wsX9_allGrains) := goodIn_app (goodIn_of _ (by decide +kernel)) ggX9_count_X9_allGrains
set_option maxRecDepth 20000 in
theorem ggX9_count_X9_possibles : GoodIn wsX9_count wsX9_possibles := goodIn_r _ [12, 13, 14, 15, 7, 16, 17, 18, 19, 20, 21, 22, 23, 24, 25, 26, 27, 1, 28, 29, 30, 31, 32, 33, 34, 35, 36, 41, 42, 43, 44, 45, 46, 47, 48, 49, 50, 51, 52, 53, 54, 55, 56] (by decide +kernel) (by decide +kernel)
set_option maxRecDepth 20000 in
theorem gX9_count_X9_possibles : GoodIn wsX9_count (wsV RX9 157 RX9 yX9_possibles wsX9_possibles) := goodIn_app (goodIn_of _ (by decide +kernel)) ggX9_count_X9_possibles
set_option maxRecDepth 20000 in
theorem ggX9_count_X9_mostGrains : GoodIn wsX9_count wsX9_mostGrains := goodIn_r _ [40, 1, 41, 42, 43, 44, 45, 46, 47, 48, 49, 50, 51, 52, 53, 54, 55, 56] (by decide +kernel) (by decide +kernel)
set_option maxRecDepth 20000 in
theorem gX9_count_X9_mostGrains : GoodIn wsX9_count (wsV RX9 160 RX9 yX9_mostGrains wsX9_mostGrains) := goodIn_app (goodIn_of _ (by decide +kernel)) ggX9_count_X9_mostGrains
theorem dX9_count_0 : decode cX9_count 0 = .ok (.iload_n 1, 1) := by decide +kernel
theorem dX9_count_1 : decode cX9_count 1 = .ok (.tableswitch 167 0 16 #[83, 88, 88, 88, 101, 110, 119, 119, 119, 133, 138, 143, 143, 143, 143, 157, 162], 83) := by decide +kernel
theorem dX9_count_84 : decode cX9_count 84 = .ok (.aload_n 0, 1) := by decide +kernel
theorem dX9_count_85 : decode cX9_count 85 = .ok (.invokevirtual 92, 3) := by decide +kernel
theorem dX9_count_88 : decode cX9_count 88 = .ok (.ireturn, 1) := by decide +kernel
theorem dX9_count_89 : decode cX9_count 89 = .ok (.aload_n 0, 1) := by decide +kernel
theorem dX9_count_90 : decode cX9_count 90 = .ok (.getfield 22, 3) := by decide +kernel
theorem dX9_count_93 : decode cX9_count 93 = .ok (.sipush 148, 3) := by decide +kernel
theorem dX9_count_96 : decode cX9_count 96 = .ok (.iload_n 1, 1) := by decide +kernel
theorem dX9_count_97 : decode cX9_count 97 = .ok (.iadd, 1) := by decide +kernel
theorem dX9_count_98 : decode cX9_count 98 = .ok (.iconst 1, 1) := by decide +kernel
theorem dX9_count_99 : decode cX9_count 99 = .ok (.isub, 1) := by decide +kernel
theorem dX9_count_100 : decode cX9_count 100 = .ok (.iaload, 1) := by decide +kernel
theorem dX9_count_101 : decode cX9_count 101 = .ok (.ireturn, 1) := by decide +kernel
theorem dX9_count_102 : decode cX9_count 102 = .ok (.aload_n 0, 1) := by decide +kernel
theorem dX9_count_103 : decode cX9_count 103 = .ok (.getfield 22, 3) := by decide +kernel
theorem dX9_count_106 : decode cX9_count 106 = .ok (.sipush 154, 3) := by decide +kernel
theorem dX9_count_109 : decode cX9_count 109 = .ok (.iaload, 1) := by decide +kernel
theorem dX9_count_110 : decode cX9_count 110 = .ok (.ireturn, 1) := by decide +kernel
theorem dX9_count_111 : decode cX9_count 111 = .ok (.aload_n 0, 1) := by decide +kernel
theorem dX9_count_112 : decode cX9_count 112 = .ok (.getfield 22, 3) := by decide +kernel
theorem dX9_count_115 : decode cX9_count 115 = .ok (.sipush 159, 3) := by decide +kernel
theorem dX9_count_118 : decode cX9_count 118 = .ok (.iaload, 1) := by decide +kernel
theorem dX9_count_119 : decode cX9_count 119 = .ok (.ireturn, 1) := by decide +kernel
theorem dX9_count_120 : decode cX9_count 120 = .ok (.aload_n 0, 1) := by decide +kernel
theorem dX9_count_121 : decode cX9_count 121 = .ok (.getfield 22, 3) := by decide +kernel
theorem dX9_count_124 : decode cX9_count 124 = .ok (.sipush 151, 3) := by decide +kernel
theorem dX9_count_127 : decode cX9_count 127 = .ok (.iload_n 1, 1) := by decide +kernel
theorem dX9_count_128 : decode cX9_count 128 = .ok (.iadd, 1) := by decide +kernel
theorem dX9_count_129 : decode cX9_count 129 = .ok (.bipush 6, 2) := by decide +kernel
theorem dX9_count_131 : decode cX9_count 131 = .ok (.isub, 1) := by decide +kernel
theorem dX9_count_132 : decode cX9_count 132 = .ok (.iaload, 1) := by decide +kernel
theorem dX9_count_133 : decode cX9_count 133 = .ok (.ireturn, 1) := by decide +kernel
theorem dX9_count_134 : decode cX9_count 134 = .ok (.aload_n 0, 1) := by decide +kernel
theorem dX9_count_135 : decode cX9_count 135 = .ok (.invokevirtual 157, 3) := by decide +kernel
theorem dX9_count_138 : decode cX9_count 138 = .ok (.ireturn, 1) := by decide +kernel
theorem dX9_count_139 : decode cX9_count 139 = .ok (.aload_n 0, 1) := by decide +kernel
theorem dX9_count_140 : decode cX9_count 140 = .ok (.invokevirtual 160, 3) := by decide +kernel
theorem dX9_count_143 : decode cX9_count 143 = .ok (.ireturn, 1) := by decide +kernel
theorem dX9_count_144 : decode cX9_count 144 = .ok (.aload_n 0, 1) := by decide +kernel
theorem dX9_count_145 : decode cX9_count 145 = .ok (.getfield 22, 3) := by decide +kernel
theorem dX9_count_148 : decode cX9_count 148 = .ok (.sipush 144, 3) := by decide +kernel
theorem dX9_count_151 : decode cX9_count 151 = .ok (.iload_n 1, 1) := by decide +kernel
theorem dX9_count_152 : decode cX9_count 152 = .ok (.iadd, 1) := by decide +kernel
theorem dX9_count_153 : decode cX9_count 153 = .ok (.bipush 11, 2) := by decide +kernel
theorem dX9_count_155 : decode cX9_count 155 = .ok (.isub, 1) := by decide +kernel
theorem dX9_count_156 : decode cX9_count 156 = .ok (.iaload, 1) := by decide +kernel
theorem dX9_count_157 : decode cX9_count 157 = .ok (.ireturn, 1) := by decide +kernel
theorem dX9_count_158 : decode cX9_count 158 = .ok (.aload_n 0, 1) := by decide +kernel
theorem dX9_count_159 : decode cX9_count 159 = .ok (.getfield 59, 3) := by decide +kernel
theorem dX9_count_162 : decode cX9_count 162 = .ok (.ireturn, 1) := by decide +kernel
theorem dX9_count_163 : decode cX9_count 163 = .ok (.aload_n 0, 1) := by decide +kernel
theorem dX9_count_164 : decode cX9_count 164 = .ok (.getfield 113, 3) := by decide +kernel
theorem dX9_count_167 : decode cX9_count 167 = .ok (.ireturn, 1) := by decide +kernel
theorem dX9_count_168 : decode cX9_count 168 = .ok (.bipush (-2), 2) := by decide +kernel
theorem dX9_count_170 : decode cX9_count 170 = .ok (.ireturn, 1) := by decide +kernel
set_option maxRecDepth 20000 in
theorem ggX9_clampAt_X9_in : GoodIn wsX9_clampAt wsX9_in := goodIn_r _ [5] (by decide +kernel) (by decide +kernel)
set_option maxRecDepth 20000 in
theorem gX9_clampAt_X9_in : GoodIn wsX9_clampAt (va_wsS RX9 55 yX9_in wsX9_in) := goodIn_app (goodIn_of _ (by decide +kernel)) ggX9_clampAt_X9_in
theorem dX9_clampAt_0 : decode cX9_clampAt 0 = .ok (.iload_n 1, 1) := by decide +kernel
theorem dX9_clampAt_1 : decode cX9_clampAt 1 = .ok (.iconst 0, 1) := by decide +kernel
theorem dX9_clampAt_2 : decode cX9_clampAt 2 = .ok (.aload_n 0, 1) := by decide +kernel
theorem dX9_clampAt_3 : decode cX9_clampAt 3 = .ok (.getfield 22, 3) := by decide +kernel
theorem dX9_clampAt_6 : decode cX9_clampAt 6 = .ok (.sipush 154, 3) := by decide +kernel
theorem dX9_clampAt_9 : decode cX9_clampAt 9 = .ok (.iaload, 1) := by decide +kernel
theorem dX9_clampAt_10 : decode cX9_clampAt 10 = .ok (.iconst 1, 1) := by decide +kernel
theorem dX9_clampAt_11 : decode cX9_clampAt 11 = .ok (.isub, 1) := by decide +kernel
theorem dX9_clampAt_12 : decode cX9_clampAt 12 = .ok (.invokestatic 55, 3) := by decide +kernel
theorem dX9_clampAt_15 : decode cX9_clampAt 15 = .ok (.ifCond .ne 7, 3) := by decide +kernel
theorem dX9_clampAt_18 : decode cX9_clampAt 18 = .ok (.iconst (-1), 1) := by decide +kernel
theorem dX9_clampAt_19 : decode cX9_clampAt 19 = .ok (.goto 36, 3) := by decide +kernel
theorem dX9_clampAt_22 : decode cX9_clampAt 22 = .ok (.iload_n 2, 1) := by decide +kernel
theorem dX9_clampAt_23 : decode cX9_clampAt 23 = .ok (.ifCond .eq 19, 3) := by decide +kernel
theorem dX9_clampAt_26 : decode cX9_clampAt 26 = .ok (.aload_n 0, 1) := by decide +kernel
theorem dX9_clampAt_27 : decode cX9_clampAt 27 = .ok (.getfield 22, 3) := by decide +kernel
theorem dX9_clampAt_30 : decode cX9_clampAt 30 = .ok (.sipush 155, 3) := by decide +kernel
theorem dX9_clampAt_33 : decode cX9_clampAt 33 = .ok (.iload_n 1, 1) := by decide +kernel
theorem dX9_clampAt_34 : decode cX9_clampAt 34 = .ok (.iadd, 1) := by decide +kernel
theorem dX9_clampAt_35 : decode cX9_clampAt 35 = .ok (.iaload, 1) := by decide +kernel
theorem dX9_clampAt_36 : decode cX9_clampAt 36 = .ok (.bipush 12, 2) := by decide +kernel
theorem dX9_clampAt_38 : decode cX9_clampAt 38 = .ok (.idiv, 1) := by decide +kernel
theorem dX9_clampAt_39 : decode cX9_clampAt 39 = .ok (.goto 16, 3) := by decide +kernel
theorem dX9_clampAt_42 : decode cX9_clampAt 42 = .ok (.aload_n 0, 1) := by decide +kernel
theorem dX9_clampAt_43 : decode cX9_clampAt 43 = .ok (.getfield 22, 3) := by decide +kernel
theorem dX9_clampAt_46 : decode cX9_clampAt 46 = .ok (.sipush 155, 3) := by decide +kernel
theorem dX9_clampAt_49 : decode cX9_clampAt 49 = .ok (.iload_n 1, 1) := by decide +kernel
theorem dX9_clampAt_50 : decode cX9_clampAt 50 = .ok (.iadd, 1) := by decide +kernel
theorem dX9_clampAt_51 : decode cX9_clampAt 51 = .ok (.iaload, 1) := by decide +kernel
theorem dX9_clampAt_52 : decode cX9_clampAt 52 = .ok (.bipush 12, 2) := by decide +kernel
theorem dX9_clampAt_54 : decode cX9_clampAt 54 = .ok (.irem, 1) := by decide +kernel
theorem dX9_clampAt_55 : decode cX9_clampAt 55 = .ok (.ireturn, 1) := by decide +kernel
theorem dJ9_abs_0f7a4_0 : decode cJ9_abs_0f7a4 0 = .ok (.iload_n 0, 1) := by decide +kernel
theorem dJ9_abs_0f7a4_1 : decode cJ9_abs_0f7a4 1 = .ok (.ifCond .ge 8, 3) := by decide +kernel
theorem dJ9_abs_0f7a4_4 : decode cJ9_abs_0f7a4 4 = .ok (.iload_n 0, 1) := by decide +kernel
theorem dJ9_abs_0f7a4_5 : decode cJ9_abs_0f7a4 5 = .ok (.ineg, 1) := by decide +kernel
theorem dJ9_abs_0f7a4_6 : decode cJ9_abs_0f7a4 6 = .ok (.goto 4, 3) := by decide +kernel
theorem dJ9_abs_0f7a4_9 : decode cJ9_abs_0f7a4 9 = .ok (.iload_n 0, 1) := by decide +kernel
theorem dJ9_abs_0f7a4_10 : decode cJ9_abs_0f7a4 10 = .ok (.ireturn, 1) := by decide +kernel
theorem dJ9_max_7cf53_0 : decode cJ9_max_7cf53 0 = .ok (.iload_n 0, 1) := by decide +kernel
theorem dJ9_max_7cf53_1 : decode cJ9_max_7cf53 1 = .ok (.iload_n 1, 1) := by decide +kernel
theorem dJ9_max_7cf53_2 : decode cJ9_max_7cf53 2 = .ok (.if_icmp .lt 7, 3) := by decide +kernel
theorem dJ9_max_7cf53_5 : decode cJ9_max_7cf53 5 = .ok (.iload_n 0, 1) := by decide +kernel
theorem dJ9_max_7cf53_6 : decode cJ9_max_7cf53 6 = .ok (.goto 4, 3) := by decide +kernel
theorem dJ9_max_7cf53_9 : decode cJ9_max_7cf53 9 = .ok (.iload_n 1, 1) := by decide +kernel
theorem dJ9_max_7cf53_10 : decode cJ9_max_7cf53 10 = .ok (.ireturn, 1) := by decide +kernel
theorem dJ9_min_7cf53_0 : decode cJ9_min_7cf53 0 = .ok (.iload_n 0, 1) := by decide +kernel
theorem dJ9_min_7cf53_1 : decode cJ9_min_7cf53 1 = .ok (.iload_n 1, 1) := by decide +kernel
theorem dJ9_min_7cf53_2 : decode cJ9_min_7cf53 2 = .ok (.if_icmp .gt 7, 3) := by decide +kernel
theorem dJ9_min_7cf53_5 : decode cJ9_min_7cf53 5 = .ok (.iload_n 0, 1) := by decide +kernel
theorem dJ9_min_7cf53_6 : decode cJ9_min_7cf53 6 = .ok (.goto 4, 3) := by decide +kernel
theorem dJ9_min_7cf53_9 : decode cJ9_min_7cf53 9 = .ok (.iload_n 1, 1) := by decide +kernel
theorem dJ9_min_7cf53_10 : decode cJ9_min_7cf53 10 = .ok (.ireturn, 1) := by decide +kernel
set_option maxRecDepth 20000 in
theorem ggL_law_X8_init : GoodIn wsL_law wsX8_init := goodIn_r _ [8, 9, 10, 11, 12, 13, 14, 15, 16, 17, 18, 19, 20, 21, 22, 23, 24, 25, 26, 27, 28, 29, 30, 31, 32, 33, 34, 35, 36, 37, 38, 39, 40, 41, 42, 43, 44, 45, 46, 47, 48, 49, 50, 51, 52, 53, 54, 55, 56, 57, 58, 59, 60, 61, 62, 63, 64, 65, 66, 67, 68, 69, 70, 71, 72, 73, 74, 75, 76, 77, 78, 79, 80, 81, 82, 83, 84, 85, 86, 87, 88, 89, 90, 91, 92, 93, 94, 95, 96, 97, 98, 99, 100, 101, 102, 103, 104, 105, 106, 107, 108, 109, 110, 111, 112, 113, 114, 115, 116, 117, 118, 119, 120, 121, 122, 123, 124, 125, 126, 127, 128, 129, 130, 131, 132, 133, 134, 135, 136, 137, 138, 139, 140, 141, 142, 143, 144, 145, 717, 718, 719, 720, 721, 692, 693, 694, 695, 696, 697, 698, 699, 700, 722, 723, 724, 725, 726, 727, 728, 729, 730, 731, 732, 733, 734, 735, 736, 737, 738, 739, 740, 741, 742, 743, 744, 745, 746, 747, 748, 749, 750, 751, 752, 753, 754, 755, 756, 757, 758, 759, 760] (by decide +kernel) (by decide +kernel)
set_option maxRecDepth 20000 in
theorem gL_law_X8_init : GoodIn wsL_law (wsX8_init) := ggL_law_X8_init
set_option maxRecDepth 20000 in
theorem ggL_law_X9_init : GoodIn wsL_law wsX9_init := goodIn_r _ [148, 149, 10, 11, 46, 150, 151, 152, 153, 154, 155, 156, 157, 158, 105, 159, 160, 161, 162, 163, 5, 164, 165, 166, 167, 168, 169, 170, 701, 702, 703, 704, 705, 706, 707, 708, 709, 710, 711, 712, 713, 714, 715, 716] (by decide +kernel) (by decide +kernel)
set_option maxRecDepth 20000 in
theorem gL_law_X9_init : GoodIn wsL_law (wsX9_init) := ggL_law_X9_init
set_option maxRecDepth 20000 in
theorem ggL_law_X8_strew : GoodIn wsL_law wsX8_strew := goodIn_r _ [174, 39, 19, 175, 176, 2, 177, 178, 179, 180, 38, 181, 144, 143, 142, 182, 183, 184, 18, 185, 63, 78, 79, 80, 81, 64, 65, 66, 67, 71, 72, 73, 74, 75, 76, 77, 186, 187, 188, 70, 189, 86, 190, 191, 192, 193, 92, 93, 94, 194, 195, 196, 197, 91, 198, 199, 200, 692, 693, 694, 695, 696, 697, 698, 699, 700, 722, 723, 724, 725, 726, 727, 728, 729, 730, 731, 732, 733, 753, 754, 755, 756, 757, 758, 759, 760] (by decide +kernel) (by decide +kernel)
set_option maxRecDepth 20000 in
theorem gL_law_X8_strew : GoodIn wsL_law (wsV RL 13 RX8 yX8_strew wsX8_strew) := goodIn_app (goodIn_of _ (by decide +kernel)) ggL_law_X8_strew
set_option maxRecDepth 20000 in
theorem ggL_law_X9_strew : GoodIn wsL_law wsX9_strew := goodIn_r _ [204, 154, 205, 206, 5, 207, 208, 209, 210, 211, 212, 213, 214, 215, 155, 701, 702, 703, 704, 705, 706, 707, 708, 709, 710, 711, 712, 713, 714, 715, 716] (by decide +kernel) (by decide +kernel)
set_option maxRecDepth 20000 in
theorem gL_law_X9_strew : GoodIn wsL_law (wsV RL 17 RX9 yX9_strew wsX9_strew) := goodIn_app (goodIn_of _ (by decide +kernel)) ggL_law_X9_strew
set_option maxRecDepth 20000 in
theorem ggL_law_X8_sweep : GoodIn wsL_law wsX8_sweep := goodIn_r _ [219, 39, 19, 178, 179, 180, 38, 181, 144, 143, 142, 182, 183, 184, 18, 185, 63, 78, 79, 80, 81, 64, 65, 66, 67, 71, 72, 73, 74, 75, 76, 77, 186, 187, 188, 70, 189, 86, 190, 191, 192, 193, 92, 93, 94, 194, 195, 196, 197, 91, 220, 221, 222, 223, 224, 96, 97, 98, 692, 693, 694, 695, 696, 697, 698, 699, 700, 722, 723, 724, 725, 726, 727, 728, 729, 730, 731, 732, 733, 753, 754, 755, 756, 757, 758, 759, 760] (by decide +kernel) (by decide +kernel)
set_option maxRecDepth 20000 in
theorem gL_law_X8_sweep : GoodIn wsL_law (wsV RL 18 RX8 yX8_sweep wsX8_sweep) := goodIn_app (goodIn_of _ (by decide +kernel)) ggL_law_X8_sweep
set_option maxRecDepth 20000 in
theorem ggL_law_X9_sweep : GoodIn wsL_law wsX9_sweep := goodIn_r _ [228, 154, 208, 209, 5, 210, 211, 212, 213, 214, 215, 155, 229, 230, 231, 232, 701, 702, 703, 704, 705, 706, 707, 708, 709, 710, 711, 712, 713, 714, 715, 716] (by decide +kernel) (by decide +kernel)
set_option maxRecDepth 20000 in
theorem gL_law_X9_sweep : GoodIn wsL_law (wsV RL 22 RX9 yX9_sweep wsX9_sweep) := goodIn_app (goodIn_of _ (by decide +kernel)) ggL_law_X9_sweep
set_option maxRecDepth 20000 in
theorem ggL_law_X8_clamp : GoodIn wsL_law wsX8_clamp := goodIn_r _ [236, 19, 39, 175, 176, 2, 177, 237, 238, 239, 18, 240, 66, 64, 65, 178, 179, 180, 38, 181, 144, 143, 142, 182, 183, 184, 185, 63, 78, 79, 80, 81, 67, 71, 72, 73, 74, 75, 76, 77, 186, 187, 188, 70, 189, 86, 190, 191, 192, 193, 92, 93, 94, 194, 195, 196, 197, 91, 692, 693, 694, 695, 696, 697, 698, 699, 700, 722, 723, 724, 725, 726, 727, 728, 729, 730, 731, 732, 733, 753, 754, 755, 756, 757, 758, 759, 760] (by decide +kernel) (by decide +kernel)
set_option maxRecDepth 20000 in
theorem gL_law_X8_clamp : GoodIn wsL_law (wsV RL 23 RX8 yX8_clamp wsX8_clamp) := goodIn_app (goodIn_of _ (by decide +kernel)) ggL_law_X8_clamp
set_option maxRecDepth 20000 in
theorem ggL_law_X9_clamp : GoodIn wsL_law wsX9_clamp := goodIn_r _ [244, 154, 205, 206, 5, 207, 208, 209, 210, 245, 246, 247, 248, 211, 212, 213, 214, 215, 155, 701, 702, 703, 704, 705, 706, 707, 708, 709, 710, 711, 712, 713, 714, 715, 716] (by decide +kernel) (by decide +kernel)
set_option maxRecDepth 20000 in
theorem gL_law_X9_clamp : GoodIn wsL_law (wsV RL 27 RX9 yX9_clamp wsX9_clamp) := goodIn_app (goodIn_of _ (by decide +kernel)) ggL_law_X9_clamp
set_option maxRecDepth 20000 in
theorem ggL_law_X8_unclamp : GoodIn wsL_law wsX8_unclamp := goodIn_r _ [252, 39, 19, 253, 254, 255, 2, 256, 178, 179, 180, 38, 181, 144, 143, 142, 182, 183, 184, 18, 185, 63, 78, 79, 80, 81, 64, 65, 66, 67, 71, 72, 73, 74, 75, 76, 77, 186, 187, 188, 70, 189, 86, 190, 191, 192, 193, 92, 93, 94, 194, 195, 196, 197, 91, 257, 258, 259, 260, 692, 693, 694, 695, 696, 697, 698, 699, 700, 722, 723, 724, 725, 726, 727, 728, 729, 730, 731, 732, 733, 753, 754, 755, 756, 757, 758, 759, 760] (by decide +kernel) (by decide +kernel)
set_option maxRecDepth 20000 in
theorem gL_law_X8_unclamp : GoodIn wsL_law (wsV RL 28 RX8 yX8_unclamp wsX8_unclamp) := goodIn_app (goodIn_of _ (by decide +kernel)) ggL_law_X8_unclamp
set_option maxRecDepth 20000 in
theorem ggL_law_X9_unclamp : GoodIn wsL_law wsX9_unclamp := goodIn_r _ [264, 154, 208, 209, 5, 210, 211, 212, 213, 214, 215, 155, 701, 702, 703, 704, 705, 706, 707, 708, 709, 710, 711, 712, 713, 714, 715, 716] (by decide +kernel) (by decide +kernel)
set_option maxRecDepth 20000 in
theorem gL_law_X9_unclamp : GoodIn wsL_law (wsV RL 31 RX9 yX9_unclamp wsX9_unclamp) := goodIn_app (goodIn_of _ (by decide +kernel)) ggL_law_X9_unclamp
set_option maxRecDepth 20000 in
theorem ggL_law_X8_set : GoodIn wsL_law wsX8_set := goodIn_r _ [268, 269, 270, 19, 39, 178, 179, 180, 38, 181, 144, 143, 142, 182, 183, 184, 18, 185, 63, 78, 79, 80, 81, 64, 65, 66, 67, 71, 72, 73, 74, 75, 76, 77, 186, 187, 188, 70, 189, 86, 190, 191, 192, 193, 92, 93, 94, 194, 195, 196, 197, 91, 692, 693, 694, 695, 696, 697, 698, 699, 700, 722, 723, 724, 725, 726, 727, 728, 729, 730, 731, 732, 733, 753, 754, 755, 756, 757, 758, 759, 760] (by decide +kernel) (by decide +kernel)
set_option maxRecDepth 20000 in
theorem gL_law_X8_set : GoodIn wsL_law (wsV RL 32 RX8 yX8_set wsX8_set) := goodIn_app (goodIn_of _ (by decide +kernel)) ggL_law_X8_set
set_option maxRecDepth 20000 in
theorem ggL_law_X9_set : GoodIn wsL_law wsX9_set := goodIn_r _ [274, 154, 208, 209, 5, 210, 211, 212, 213, 214, 215, 155, 701, 702, 703, 704, 705, 706, 707, 708, 709, 710, 711, 712, 713, 714, 715, 716] (by decide +kernel) (by decide +kernel)
set_option maxRecDepth 20000 in
theorem gL_law_X9_set : GoodIn wsL_law (wsV RL 35 RX9 yX9_set wsX9_set) := goodIn_app (goodIn_of _ (by decide +kernel)) ggL_law_X9_set
set_option maxRecDepth 20000 in
theorem ggL_law_X8_bow : GoodIn wsL_law wsX8_bow := goodIn_r _ [278, 19, 39, 279, 280, 2, 281, 282, 283, 284, 178, 179, 180, 38, 181, 144, 143, 142, 182, 183, 184, 18, 185, 63, 78, 79, 80, 81, 64, 65, 66, 67, 71, 72, 73, 74, 75, 76, 77, 186, 187, 188, 70, 189, 86, 190, 191, 192, 193, 92, 93, 94, 194, 195, 196, 197, 91, 285, 692, 693, 694, 695, 696, 697, 698, 699, 700, 722, 723, 724, 725, 726, 727, 728, 729, 730, 731, 732, 733, 756, 757, 758, 759, 760, 753, 754, 755] (by decide +kernel) (by decide +kernel)
set_option maxRecDepth 20000 in
theorem gL_law_X8_bow : GoodIn wsL_law (wsV RL 36 RX8 yX8_bow wsX8_bow) := goodIn_app (goodIn_of _ (by decide +kernel)) ggL_law_X8_bow
set_option maxRecDepth 20000 in
theorem ggL_law_X9_bow : GoodIn wsL_law wsX9_bow := goodIn_r _ [289, 154, 290, 291, 5, 292, 208, 209, 210, 211, 212, 213, 214, 215, 155, 293, 294, 295, 296, 701, 702, 703, 704, 705, 706, 707, 708, 709, 710, 711, 712, 713, 714, 715, 716] (by decide +kernel) (by decide +kernel)
set_option maxRecDepth 20000 in
theorem gL_law_X9_bow : GoodIn wsL_law (wsV RL 39 RX9 yX9_bow wsX9_bow) := goodIn_app (goodIn_of _ (by decide +kernel)) ggL_law_X9_bow
set_option maxRecDepth 20000 in
theorem ggL_law_X8_bowAll : GoodIn wsL_law wsX8_bowAll := goodIn_r _ [300, 35, 19, 39, 301, 302, 303, 34, 304, 135, 134, 305, 306, 307, 308, 309, 310, 311, 312, 132, 131, 313, 314, 315, 316, 317, 318, 319, 320, 321, 322, 323, 195, 196, 70, 197, 86, 91, 92, 93, 94, 324, 325, 326, 327, 178, 179, 180, 38, 181, 144, 143, 142, 182, 183, 184, 18, 185, 63, 78, 79, 80, 81, 64, 65, 66, 67, 71, 72, 73, 74, 75, 76, 77, 186, 187, 188, 189, 190, 191, 192, 193, 194, 328, 692, 693, 694, 695, 696, 697, 698, 699, 700, 722, 723, 724, 725, 726, 727, 728, 729, 730, 731, 732, 733, 756, 757, 758, 759, 760, 749, 750, 751, 752, 753, 754, 755] (by decide +kernel) (by decide +kernel)
set_option maxRecDepth 20000 in
theorem gL_law_X8_bowAll : GoodIn wsL_law (wsV RL 40 RX8 yX8_bowAll wsX8_bowAll) := goodIn_app (goodIn_of _ (by decide +kernel)) ggL_law_X8_bowAll
set_option maxRecDepth 20000 in
theorem ggL_law_X9_bowAll : GoodIn wsL_law wsX9_bowAll := goodIn_r _ [332, 333, 334, 154, 335, 336, 337, 5, 338, 339, 157, 340, 341, 342, 343, 344, 345, 346, 347, 208, 209, 210, 293, 294, 295, 296, 211, 212, 213, 214, 215, 155, 701, 702, 703, 704, 705, 706, 707, 708, 709, 710, 711, 712, 713, 714, 715, 716] (by decide +kernel) (by decide +kernel)
set_option maxRecDepth 20000 in
theorem gL_law_X9_bowAll : GoodIn wsL_law (wsV RL 44 RX9 yX9_bowAll wsX9_bowAll) := goodIn_app (goodIn_of _ (by decide +kernel)) ggL_law_X9_bowAll
set_option maxRecDepth 20000 in
theorem ggL_law_X8_strike : GoodIn wsL_law wsX8_strike := goodIn_r _ [351, 19, 39, 352, 353, 354, 70, 355, 86, 92, 178, 179, 180, 38, 181, 144, 143, 142, 182, 183, 184, 18, 185, 63, 78, 79, 80, 81, 64, 65, 66, 67, 71, 72, 73, 74, 75, 76, 77, 186, 187, 188, 189, 190, 191, 192, 193, 93, 94, 194, 195, 196, 197, 91, 356, 357, 358, 359, 692, 693, 694, 695, 696, 697, 698, 699, 700, 722, 723, 724, 725, 726, 727, 728, 729, 730, 731, 732, 733, 756, 757, 758, 759, 760, 753, 754, 755] (by decide +kernel) (by decide +kernel)
set_option maxRecDepth 20000 in
theorem gL_law_X8_strike : GoodIn wsL_law (wsV RL 45 RX8 yX8_strike wsX8_strike) := goodIn_app (goodIn_of _ (by decide +kernel)) ggL_law_X8_strike
set_option maxRecDepth 20000 in
theorem ggL_law_X9_strike : GoodIn wsL_law wsX9_strike := goodIn_r _ [363, 154, 208, 209, 5, 210, 211, 212, 213, 214, 215, 155, 364, 365, 366, 367, 701, 702, 703, 704, 705, 706, 707, 708, 709, 710, 711, 712, 713, 714, 715, 716] (by decide +kernel) (by decide +kernel)
set_option maxRecDepth 20000 in
theorem gL_law_X9_strike : GoodIn wsL_law (wsV RL 48 RX9 yX9_strike wsX9_strike) := goodIn_app (goodIn_of _ (by decide +kernel)) ggL_law_X9_strike
set_option maxRecDepth 20000 in
theorem ggL_law_X8_play : GoodIn wsL_law wsX8_play := goodIn_r _ [371, 19, 372, 373, 89, 374, 39, 178, 179, 180, 38, 181, 144, 143, 142, 182, 183, 184, 18, 185, 63, 78, 79, 80, 81, 64, 65, 66, 67, 71, 72, 73, 74, 75, 76, 77, 186, 187, 188, 70, 189, 86, 190, 191, 192, 193, 92, 93, 94, 194, 195, 196, 197, 91, 375, 376, 377, 2, 378, 23, 31, 379, 380, 381, 22, 382, 383, 384, 385, 386, 108, 387, 388, 389, 390, 107, 391, 392, 393, 14, 394, 47, 48, 50, 49, 395, 396, 397, 398, 399, 176, 177, 400, 401, 402, 403, 404, 405, 406, 407, 30, 408, 122, 125, 123, 409, 410, 411, 412, 413, 414, 415, 416, 417, 199, 200, 418, 419, 420, 421, 422, 423, 424, 425, 124, 126, 426, 427, 428, 429, 430, 431, 432, 433, 434, 435, 436, 87, 88, 90, 692, 693, 694, 695, 696, 697, 698, 699, 700, 722, 723, 724, 725, 726, 727, 728, 729, 730, 731, 732, 733, 756, 757, 758, 759, 760, 753, 754, 755, 734, 735, 736, 737, 738, 717, 718, 719, 720, 721, 744, 745, 746, 747, 748] (by decide +kernel) (by decide +kernel)
set_option maxRecDepth 20000 in
theorem gL_law_X8_play : GoodIn wsL_law (wsV RL 49 RX8 yX8_play wsX8_play) := goodIn_app (goodIn_of _ (by decide +kernel)) ggL_law_X8_play
set_option maxRecDepth 20000 in
theorem ggL_law_X9_play : GoodIn wsL_law wsX9_play := goodIn_r _ [440, 154, 208, 209, 5, 210, 211, 212, 213, 214, 215, 155, 441, 442, 443, 444, 445, 446, 447, 448, 449, 450, 451, 452, 453, 454, 455, 456, 457, 458, 459, 153, 364, 365, 366, 367, 460, 461, 462, 463, 158, 464, 465, 466, 467, 468, 469, 470, 205, 206, 207, 701, 702, 703, 704, 705, 706, 707, 708, 709, 710, 711, 712, 713, 714, 715, 716] (by decide +kernel) (by decide +kernel)
set_option maxRecDepth 20000 in
theorem gL_law_X9_play : GoodIn wsL_law (wsV RL 52 RX9 yX9_play wsX9_play) := goodIn_app (goodIn_of _ (by decide +kernel)) ggL_law_X9_play
set_option maxRecDepth 20000 in
theorem ggL_law_X8_type : GoodIn wsL_law wsX8_type := goodIn_r _ [474, 35, 475, 476, 477, 34, 478, 132, 131, 692, 693, 694, 695, 696, 697, 698, 699, 700, 749, 750, 751, 752] (by decide +kernel) (by decide +kernel)
set_option maxRecDepth 20000 in
theorem gL_law_X8_type : GoodIn wsL_law (wsV RL 53 RX8 yX8_type wsX8_type) := goodIn_app (goodIn_of _ (by decide +kernel)) ggL_law_X8_type
set_option maxRecDepth 20000 in
theorem ggL_law_X9_type : GoodIn wsL_law wsX9_type := goodIn_r _ [482, 339, 157, 701, 702, 703, 704, 705, 706, 707, 708, 709, 710, 711, 712, 713, 714, 715, 716] (by decide +kernel) (by decide +kernel)
set_option maxRecDepth 20000 in
theorem gL_law_X9_type : GoodIn wsL_law (wsV RL 57 RX9 yX9_type wsX9_type) := goodIn_app (goodIn_of _ (by decide +kernel)) ggL_law_X9_type
set_option maxRecDepth 20000 in
theorem ggL_law_X8_clearText : GoodIn wsL_law wsX8_clearText := goodIn_r _ [486, 35, 692, 693, 694, 695, 696, 697, 698, 699, 700, 749, 750, 751, 752] (by decide +kernel) (by decide +kernel)
set_option maxRecDepth 20000 in
theorem gL_law_X8_clearText : GoodIn wsL_law (wsV RL 58 RX8 yX8_clearText wsX8_clearText) := goodIn_app (goodIn_of _ (by decide +kernel)) ggL_law_X8_clearText
set_option maxRecDepth 20000 in
theorem ggL_law_X9_clearText : GoodIn wsL_law wsX9_clearText := goodIn_r _ [490, 339, 701, 702, 703, 704, 705, 706, 707, 708, 709, 710, 711, 712, 713, 714, 715, 716] (by decide +kernel) (by decide +kernel)
set_option maxRecDepth 20000 in
theorem gL_law_X9_clearText : GoodIn wsL_law (wsV RL 61 RX9 yX9_clearText wsX9_clearText) := goodIn_app (goodIn_of _ (by decide +kernel)) ggL_law_X9_clearText
set_option maxRecDepth 20000 in
theorem ggL_law_X8_undo : GoodIn wsL_law wsX8_undo := goodIn_r _ [494, 39, 19, 495, 496, 497, 38, 498, 144, 142, 143, 182, 183, 184, 18, 185, 63, 78, 79, 80, 81, 64, 65, 66, 67, 71, 72, 73, 74, 75, 76, 77, 186, 187, 188, 70, 189, 86, 190, 191, 192, 193, 92, 93, 94, 194, 195, 196, 197, 91, 692, 693, 694, 695, 696, 697, 698, 699, 700, 753, 754, 755, 722, 723, 724, 725, 726, 727, 728, 729, 730, 731, 732, 733, 756, 757, 758, 759, 760] (by decide +kernel) (by decide +kernel)
set_option maxRecDepth 20000 in
theorem gL_law_X8_undo : GoodIn wsL_law (wsV RL 62 RX8 yX8_undo wsX8_undo) := goodIn_app (goodIn_of _ (by decide +kernel)) ggL_law_X8_undo
set_option maxRecDepth 20000 in
theorem ggL_law_X9_undo : GoodIn wsL_law wsX9_undo := goodIn_r _ [502, 215, 154, 155, 701, 702, 703, 704, 705, 706, 707, 708, 709, 710, 711, 712, 713, 714, 715, 716] (by decide +kernel) (by decide +kernel)
set_option maxRecDepth 20000 in
theorem gL_law_X9_undo : GoodIn wsL_law (wsV RL 65 RX9 yX9_undo wsX9_undo) := goodIn_app (goodIn_of _ (by decide +kernel)) ggL_law_X9_undo
set_option maxRecDepth 20000 in
theorem ggL_law_X8_keep : GoodIn wsL_law wsX8_keep := goodIn_r _ [506, 40, 19, 41, 507, 183, 184, 18, 185, 63, 78, 79, 80, 81, 64, 65, 66, 67, 71, 72, 73, 74, 75, 76, 77, 186, 187, 188, 70, 189, 86, 190, 191, 192, 193, 92, 93, 94, 194, 195, 196, 197, 91, 220, 221, 222, 223, 692, 693, 694, 695, 696, 697, 698, 699, 700, 722, 723, 724, 725, 726, 727, 728, 729, 730, 731, 732, 733, 756, 757, 758, 759, 760] (by decide +kernel) (by decide +kernel)
set_option maxRecDepth 20000 in
theorem gL_law_X8_keep : GoodIn wsL_law (wsV RL 66 RX8 yX8_keep wsX8_keep) := goodIn_app (goodIn_of _ (by decide +kernel)) ggL_law_X8_keep
set_option maxRecDepth 20000 in
theorem ggL_law_X9_keep : GoodIn wsL_law wsX9_keep := goodIn_r _ [511, 156, 154, 512, 229, 230, 231, 5, 232, 701, 702, 703, 704, 705, 706, 707, 708, 709, 710, 711, 712, 713, 714, 715, 716] (by decide +kernel) (by decide +kernel)
set_option maxRecDepth 20000 in
theorem gL_law_X9_keep : GoodIn wsL_law (wsV RL 69 RX9 yX9_keep wsX9_keep) := goodIn_app (goodIn_of _ (by decide +kernel)) ggL_law_X9_keep
set_option maxRecDepth 20000 in
theorem ggL_law_X8_restore : GoodIn wsL_law wsX8_restore := goodIn_r _ [516, 41, 39, 19, 40, 178, 179, 180, 38, 181, 144, 143, 142, 182, 183, 184, 18, 185, 63, 78, 79, 80, 81, 64, 65, 66, 67, 71, 72, 73, 74, 75, 76, 77, 186, 187, 188, 70, 189, 86, 190, 191, 192, 193, 92, 93, 94, 194, 195, 196, 197, 91, 507, 220, 221, 222, 223, 692, 693, 694, 695, 696, 697, 698, 699, 700, 753, 754, 755, 722, 723, 724, 725, 726, 727, 728, 729, 730, 731, 732, 733, 756, 757, 758, 759, 760] (by decide +kernel) (by decide +kernel)
set_option maxRecDepth 20000 in
theorem gL_law_X8_restore : GoodIn wsL_law (wsV RL 70 RX8 yX8_restore wsX8_restore) := goodIn_app (goodIn_of _ (by decide +kernel)) ggL_law_X8_restore
set_option maxRecDepth 20000 in
theorem ggL_law_X9_restore : GoodIn wsL_law wsX9_restore := goodIn_r _ [520, 512, 154, 156, 211, 212, 213, 5, 214, 215, 155, 229, 230, 231, 232, 701, 702, 703, 704, 705, 706, 707, 708, 709, 710, 711, 712, 713, 714, 715, 716] (by decide +kernel) (by decide +kernel)
set_option maxRecDepth 20000 in
theorem gL_law_X9_restore : GoodIn wsL_law (wsV RL 73 RX9 yX9_restore wsX9_restore) := goodIn_app (goodIn_of _ (by decide +kernel)) ggL_law_X9_restore
set_option maxRecDepth 20000 in
theorem ggL_law_X8_place : GoodIn wsL_law wsX8_place := goodIn_r _ [524, 19, 15, 27, 175, 176, 2, 177, 198, 199, 200, 404, 398, 399, 525, 392, 393, 14, 394, 47, 48, 50, 49, 395, 396, 89, 397, 526, 527, 528, 26, 529, 116, 117, 530, 531, 532, 533, 237, 238, 239, 18, 240, 66, 64, 65, 534, 535, 536, 692, 693, 694, 695, 696, 697, 698, 699, 700, 722, 723, 724, 725, 726, 727, 728, 729, 730, 731, 732, 733, 717, 718, 719, 720, 721, 739, 740, 741, 742, 743] (by decide +kernel) (by decide +kernel)
set_option maxRecDepth 20000 in
theorem gL_law_X8_place : GoodIn wsL_law (wsV RL 74 RX8 yX8_place wsX8_place) := goodIn_app (goodIn_of _ (by decide +kernel)) ggL_law_X8_place
set_option maxRecDepth 20000 in
theorem ggL_law_X9_place : GoodIn wsL_law wsX9_place := goodIn_r _ [540, 154, 205, 206, 5, 207, 208, 209, 210, 456, 457, 458, 459, 153, 541, 542, 543, 544, 245, 246, 247, 248, 701, 702, 703, 704, 705, 706, 707, 708, 709, 710, 711, 712, 713, 714, 715, 716] (by decide +kernel) (by decide +kernel)
set_option maxRecDepth 20000 in
theorem gL_law_X9_place : GoodIn wsL_law (wsV RL 77 RX9 yX9_place wsX9_place) := goodIn_app (goodIn_of _ (by decide +kernel)) ggL_law_X9_place
set_option maxRecDepth 20000 in
theorem ggL_law_X8_way : GoodIn wsL_law wsX8_way := goodIn_r _ [548, 15, 27, 23, 404, 398, 2, 399, 549, 550, 551, 14, 552, 47, 48, 49, 553, 554, 555, 26, 556, 409, 410, 411, 412, 557, 527, 528, 529, 116, 117, 530, 392, 393, 394, 50, 395, 396, 89, 397, 176, 177, 558, 559, 560, 561, 113, 562, 563, 564, 565, 115, 114, 566, 567, 568, 569, 199, 200, 570, 571, 572, 573, 574, 401, 402, 22, 403, 108, 107, 391, 531, 532, 533, 692, 693, 694, 695, 696, 697, 698, 699, 700, 717, 718, 719, 720, 721, 739, 740, 741, 742, 743, 722, 723, 724, 725, 726, 727, 728, 729, 730, 731, 732, 733, 734, 735, 736, 737, 738] (by decide +kernel) (by decide +kernel)
set_option maxRecDepth 20000 in
theorem gL_law_X8_way : GoodIn wsL_law (wsV RL 78 RX8 yX8_way wsX8_way) := goodIn_app (goodIn_of _ (by decide +kernel)) ggL_law_X8_way
set_option maxRecDepth 20000 in
theorem ggL_law_X9_way : GoodIn wsL_law wsX9_way := goodIn_r _ [578, 150, 151, 152, 579, 580, 5, 581, 208, 209, 210, 582, 583, 584, 585, 586, 587, 588, 589, 154, 541, 542, 543, 544, 456, 457, 458, 459, 153, 590, 591, 592, 593, 159, 594, 595, 596, 597, 160, 205, 206, 207, 452, 453, 454, 455, 701, 702, 703, 704, 705, 706, 707, 708, 709, 710, 711, 712, 713, 714, 715, 716] (by decide +kernel) (by decide +kernel)
set_option maxRecDepth 20000 in
theorem gL_law_X9_way : GoodIn wsL_law (wsV RL 81 RX9 yX9_way wsX9_way) := goodIn_app (goodIn_of _ (by decide +kernel)) ggL_law_X9_way
set_option maxRecDepth 20000 in
theorem ggL_law_X8_swing : GoodIn wsL_law wsX8_swing := goodIn_r _ [601, 15, 404, 398, 2, 399, 175, 176, 177, 525, 392, 393, 14, 394, 47, 48, 50, 49, 395, 396, 89, 397, 692, 693, 694, 695, 696, 697, 698, 699, 700, 717, 718, 719, 720, 721] (by decide +kernel) (by decide +kernel)
set_option maxRecDepth 20000 in
theorem gL_law_X8_swing : GoodIn wsL_law (wsV RL 82 RX8 yX8_swing wsX8_swing) := goodIn_app (goodIn_of _ (by decide +kernel)) ggL_law_X8_swing
set_option maxRecDepth 20000 in
theorem ggL_law_X9_swing : GoodIn wsL_law wsX9_swing := goodIn_r _ [605, 579, 580, 5, 581, 208, 209, 210, 205, 206, 207, 456, 457, 458, 459, 153, 701, 702, 703, 704, 705, 706, 707, 708, 709, 710, 711, 712, 713, 714, 715, 716] (by decide +kernel) (by decide +kernel)
set_option maxRecDepth 20000 in
theorem gL_law_X9_swing : GoodIn wsL_law (wsV RL 85 RX9 yX9_swing wsX9_swing) := goodIn_app (goodIn_of _ (by decide +kernel)) ggL_law_X9_swing
set_option maxRecDepth 20000 in
theorem ggL_law_X8_sounds : GoodIn wsL_law wsX8_sounds := goodIn_r _ [609, 23, 279, 280, 2, 281, 282, 283, 284, 379, 380, 381, 22, 382, 383, 384, 385, 386, 108, 387, 388, 389, 390, 107, 391, 392, 393, 14, 394, 47, 48, 50, 49, 395, 396, 89, 397, 398, 399, 176, 177, 400, 401, 402, 403, 534, 535, 536, 692, 693, 694, 695, 696, 697, 698, 699, 700, 734, 735, 736, 737, 738, 722, 723, 724, 725, 726, 727, 728, 729, 730, 731, 732, 733, 717, 718, 719, 720, 721] (by decide +kernel) (by decide +kernel)
set_option maxRecDepth 20000 in
theorem gL_law_X8_sounds : GoodIn wsL_law (wsV RL 86 RX8 yX8_sounds wsX8_sounds) := goodIn_app (goodIn_of _ (by decide +kernel)) ggL_law_X8_sounds
set_option maxRecDepth 20000 in
theorem ggL_law_X9_sounds : GoodIn wsL_law wsX9_sounds := goodIn_r _ [613, 290, 291, 5, 292, 208, 209, 210, 441, 442, 443, 444, 445, 446, 447, 448, 449, 450, 451, 154, 452, 453, 454, 455, 456, 457, 458, 459, 153, 701, 702, 703, 704, 705, 706, 707, 708, 709, 710, 711, 712, 713, 714, 715, 716] (by decide +kernel) (by decide +kernel)
set_option maxRecDepth 20000 in
theorem gL_law_X9_sounds : GoodIn wsL_law (wsV RL 89 RX9 yX9_sounds wsX9_sounds) := goodIn_app (goodIn_of _ (by decide +kernel)) ggL_law_X9_sounds
set_option maxRecDepth 20000 in
theorem ggL_law_X8_why : GoodIn wsL_law wsX8_why := goodIn_r _ [617, 23, 404, 398, 2, 399, 279, 280, 281, 282, 283, 284, 618, 619, 620, 22, 621, 400, 401, 402, 403, 108, 107, 391, 392, 393, 14, 394, 47, 48, 50, 49, 395, 396, 89, 397, 176, 177, 383, 384, 385, 386, 387, 388, 389, 390, 622, 380, 381, 382, 692, 693, 694, 695, 696, 697, 698, 699, 700, 734, 735, 736, 737, 738, 722, 723, 724, 725, 726, 727, 728, 729, 730, 731, 732, 733, 717, 718, 719, 720, 721] (by decide +kernel) (by decide +kernel)
set_option maxRecDepth 20000 in
theorem gL_law_X8_why : GoodIn wsL_law (wsV RL 90 RX8 yX8_why wsX8_why) := goodIn_app (goodIn_of _ (by decide +kernel)) ggL_law_X8_why
set_option maxRecDepth 20000 in
theorem ggL_law_X9_why : GoodIn wsL_law wsX9_why := goodIn_r _ [626, 154, 579, 580, 5, 581, 208, 209, 210, 290, 291, 292, 441, 442, 443, 452, 453, 454, 455, 456, 457, 458, 459, 153, 444, 445, 446, 447, 448, 449, 450, 451, 701, 702, 703, 704, 705, 706, 707, 708, 709, 710, 711, 712, 713, 714, 715, 716] (by decide +kernel) (by decide +kernel)
set_option maxRecDepth 20000 in
theorem gL_law_X9_why : GoodIn wsL_law (wsV RL 93 RX9 yX9_why wsX9_why) := goodIn_app (goodIn_of _ (by decide +kernel)) ggL_law_X9_why
set_option maxRecDepth 20000 in
theorem ggL_law_X8_possible : GoodIn wsL_law wsX8_possible := goodIn_r _ [630, 23, 631, 632, 633, 22, 634, 106, 104, 103, 400, 401, 402, 403, 108, 107, 391, 392, 393, 14, 394, 47, 48, 50, 49, 395, 396, 89, 397, 398, 2, 399, 176, 177, 635, 636, 637, 638, 383, 384, 385, 386, 387, 388, 389, 390, 692, 693, 694, 695, 696, 697, 698, 699, 700, 734, 735, 736, 737, 738, 722, 723, 724, 725, 726, 727, 728, 729, 730, 731, 732, 733, 717, 718, 719, 720, 721] (by decide +kernel) (by decide +kernel)
set_option maxRecDepth 20000 in
theorem gL_law_X8_possible : GoodIn wsL_law (wsV RL 94 RX8 yX8_possible wsX8_possible) := goodIn_app (goodIn_of _ (by decide +kernel)) ggL_law_X8_possible
set_option maxRecDepth 20000 in
theorem ggL_law_X9_possible : GoodIn wsL_law wsX9_possible := goodIn_r _ [642, 643, 644, 645, 5, 646, 441, 442, 443, 444, 445, 446, 447, 448, 449, 450, 451, 154, 452, 453, 454, 455, 456, 457, 458, 459, 153, 701, 702, 703, 704, 705, 706, 707, 708, 709, 710, 711, 712, 713, 714, 715, 716] (by decide +kernel) (by decide +kernel)
set_option maxRecDepth 20000 in
theorem gL_law_X9_possible : GoodIn wsL_law (wsV RL 97 RX9 yX9_possible wsX9_possible) := goodIn_app (goodIn_of _ (by decide +kernel)) ggL_law_X9_possible
set_option maxRecDepth 20000 in
theorem ggL_law_X8_waiting : GoodIn wsL_law wsX8_waiting := goodIn_r _ [650, 19, 23, 379, 380, 381, 22, 382, 383, 384, 385, 386, 108, 387, 388, 389, 390, 107, 391, 392, 393, 14, 394, 47, 48, 50, 49, 395, 396, 89, 397, 398, 2, 399, 176, 177, 400, 401, 402, 403, 534, 535, 536, 692, 693, 694, 695, 696, 697, 698, 699, 700, 722, 723, 724, 725, 726, 727, 728, 729, 730, 731, 732, 733, 756, 757, 758, 759, 760, 734, 735, 736, 737, 738, 717, 718, 719, 720, 721] (by decide +kernel) (by decide +kernel)
set_option maxRecDepth 20000 in
theorem gL_law_X8_waiting : GoodIn wsL_law (wsV RL 98 RX8 yX8_waiting wsX8_waiting) := goodIn_app (goodIn_of _ (by decide +kernel)) ggL_law_X8_waiting
set_option maxRecDepth 20000 in
theorem ggL_law_X9_waiting : GoodIn wsL_law wsX9_waiting := goodIn_r _ [654, 154, 208, 209, 5, 210, 441, 442, 443, 444, 445, 446, 447, 448, 449, 450, 451, 452, 453, 454, 455, 456, 457, 458, 459, 153, 701, 702, 703, 704, 705, 706, 707, 708, 709, 710, 711, 712, 713, 714, 715, 716] (by decide +kernel) (by decide +kernel)
set_option maxRecDepth 20000 in
theorem gL_law_X9_waiting : GoodIn wsL_law (wsV RL 101 RX9 yX9_waiting wsX9_waiting) := goodIn_app (goodIn_of _ (by decide +kernel)) ggL_law_X9_waiting
set_option maxRecDepth 20000 in
theorem ggL_law_X8_sand : GoodIn wsL_law wsX8_sand := goodIn_r _ [658, 19, 282, 283, 2, 284, 198, 199, 200, 692, 693, 694, 695, 696, 697, 698, 699, 700, 722, 723, 724, 725, 726, 727, 728, 729, 730, 731, 732, 733] (by decide +kernel) (by decide +kernel)
set_option maxRecDepth 20000 in
theorem gL_law_X8_sand : GoodIn wsL_law (wsV RL 102 RX8 yX8_sand wsX8_sand) := goodIn_app (goodIn_of _ (by decide +kernel)) ggL_law_X8_sand
set_option maxRecDepth 20000 in
theorem ggL_law_X9_sand : GoodIn wsL_law wsX9_sand := goodIn_r _ [662, 154, 208, 209, 5, 210, 701, 702, 703, 704, 705, 706, 707, 708, 709, 710, 711, 712, 713, 714, 715, 716] (by decide +kernel) (by decide +kernel)
set_option maxRecDepth 20000 in
theorem gL_law_X9_sand : GoodIn wsL_law (wsV RL 106 RX9 yX9_sand wsX9_sand) := goodIn_app (goodIn_of _ (by decide +kernel)) ggL_law_X9_sand
set_option maxRecDepth 20000 in
theorem ggL_law_X8_count : GoodIn wsL_law wsX8_count := goodIn_r _ [666, 19, 23, 39, 35, 220, 221, 222, 18, 223, 63, 534, 535, 2, 536, 631, 632, 633, 22, 634, 106, 104, 103, 400, 401, 402, 403, 108, 107, 391, 392, 393, 14, 394, 47, 48, 50, 49, 395, 396, 89, 397, 398, 399, 176, 177, 635, 636, 637, 638, 383, 384, 385, 386, 387, 388, 389, 390, 667, 668, 669, 670, 671, 88, 90, 692, 693, 694, 695, 696, 697, 698, 699, 700, 722, 723, 724, 725, 726, 727, 728, 729, 730, 731, 732, 733, 756, 757, 758, 759, 760, 734, 735, 736, 737, 738, 753, 754, 755, 749, 750, 751, 752, 717, 718, 719, 720, 721] (by decide +kernel) (by decide +kernel)
set_option maxRecDepth 20000 in
theorem gL_law_X8_count : GoodIn wsL_law (wsV RL 107 RX8 yX8_count wsX8_count) := goodIn_app (goodIn_of _ (by decide +kernel)) ggL_law_X8_count
set_option maxRecDepth 20000 in
theorem ggL_law_X9_count : GoodIn wsL_law wsX9_count := goodIn_r _ [675, 154, 215, 339, 229, 230, 231, 5, 232, 676, 677, 678, 679, 643, 644, 645, 646, 441, 442, 443, 444, 445, 446, 447, 448, 449, 450, 451, 452, 453, 454, 455, 456, 457, 458, 459, 153, 680, 681, 682, 683, 701, 702, 703, 704, 705, 706, 707, 708, 709, 710, 711, 712, 713, 714, 715, 716] (by decide +kernel) (by decide +kernel)
set_option maxRecDepth 20000 in
theorem gL_law_X9_count : GoodIn wsL_law (wsV RL 110 RX9 yX9_count wsX9_count) := goodIn_app (goodIn_of _ (by decide +kernel)) ggL_law_X9_count
set_option maxRecDepth 20000 in
theorem ggL_law_X8_clampAt : GoodIn wsL_law wsX8_clampAt := goodIn_r _ [687, 19, 253, 254, 255, 2, 256, 692, 693, 694, 695, 696, 697, 698, 699, 700, 722, 723, 724, 725, 726, 727, 728, 729, 730, 731, 732, 733] (by decide +kernel) (by decide +kernel)
set_option maxRecDepth 20000 in
theorem gL_law_X8_clampAt : GoodIn wsL_law (wsV RL 111 RX8 yX8_clampAt wsX8_clampAt) := goodIn_app (goodIn_of _ (by decide +kernel)) ggL_law_X8_clampAt
set_option maxRecDepth 20000 in
theorem ggL_law_X9_clampAt : GoodIn wsL_law wsX9_clampAt := goodIn_r _ [691, 154, 208, 209, 5, 210, 701, 702, 703, 704, 705, 706, 707, 708, 709, 710, 711, 712, 713, 714, 715, 716] (by decide +kernel) (by decide +kernel)
set_option maxRecDepth 20000 in
theorem gL_law_X9_clampAt : GoodIn wsL_law (wsV RL 115 RX9 yX9_clampAt wsX9_clampAt) := goodIn_app (goodIn_of _ (by decide +kernel)) ggL_law_X9_clampAt
end
section
theorem hiX4_append_X4 : ∀ w ∈ wsX40, w ∈ wsX4_append := by decide +kernel
set_option maxHeartbeats 4000000 in
set_option maxRecDepth 100000 in
/-- one bowing more -/
theorem kX4_append (l : Launch) (D : va_G) (z : Nat × Nat × Nat) (h0 : Nat) (h1 : Nat) (h2 : Nat) (h3 : Nat) (lim : Nat) (ps : Nat) (x : Nat) (y : Nat) (t : Nat) (fs : Nat → Nat) (fa : Nat → Nat) (fk : Nat → Nat) (hl : ps < lim) (hlim : lim < 1073741824) : CM l yX4_append wsX4_append ({ frames := 0, cells := 0, slots := 0, locals := 0 } : Room) D z [.ref h0, .int (nI x), .int (nI y), .int (nI t)] [(h0, .inr (4, [.int (nI lim), .ref h1, .ref h2, .ref h3, .int (nI ps)])), (h1, .inl ((TY D)[0].1, lim, .inl (nf fs))), (h2, .inl ((TY D)[0].1, lim, .inl (nf fa))), (h3, .inl ((TY D)[0].1, lim, .inl (nf fk)))] (fun r w => r = none ∧ w = [(h0, .inr (4, [.int (nI lim), .ref h1, .ref h2, .ref h3, .int (nI (ps + 1))])), (h1, .inl ((TY D)[0].1, lim, .inl (nf (upf fs ps x)))), (h2, .inl ((TY D)[0].1, lim, .inl (nf (upf fa ps y)))), (h3, .inl ((TY D)[0].1, lim, .inl (nf (upf fk ps t))))]) 0 0 := by
  refine CM_void (own := RX4) (cc := cX4_append) (maxL := 4) (L0 := [(0, .ref h0), (1, .int (nI x)), (2, .int (nI y)), (3, .int (nI t))]) (by decide) rfl rfl (Nat.le_of_ble_eq_true rfl) rfl (fun X O E => ?_)
  refine g_aload_n O dX4_append_0 0 rfl rfl ?_
  refine g_get O hiX4_append_X4 0 rfl rfl 4 (by decide) (by decide +kernel) rfl dX4_append_1 ?_
  refine g_aload_n O dX4_append_4 0 rfl rfl ?_
  refine g_get O hiX4_append_X4 0 rfl rfl 0 (by decide) (by decide +kernel) rfl dX4_append_5 ?_
  refine g_icmp_geN (tgt := 51) O (by omega) (by omega) dX4_append_8 (by decide) (fun c_1 => (by exfalso; omega)) (fun c_1 => ?_)
  refine g_aload_n O dX4_append_11 0 rfl rfl ?_
  refine g_get O hiX4_append_X4 0 rfl rfl 1 (by decide) (by decide +kernel) rfl dX4_append_12 ?_
  refine g_aload_n O dX4_append_15 0 rfl rfl ?_
  refine g_get O hiX4_append_X4 0 rfl rfl 4 (by decide) (by decide +kernel) rfl dX4_append_16 ?_
  refine g_iload_n O dX4_append_19 1 rfl rfl ?_
  refine g_iastN (f' := (nf (upf fs ps x))) (ws' := [(h0, .inr (4, [.int (nI lim), .ref h1, .ref h2, .ref h3, .int (nI ps)])), (h1, .inl ((TY D)[0].1, lim, .inl (nf (upf fs ps x)))), (h2, .inl ((TY D)[0].1, lim, .inl (nf fa))), (h3, .inl ((TY D)[0].1, lim, .inl (nf fk)))]) O 1 rfl (by omega) (by omega) dX4_append_20 (nf_upd _ _ _) rfl ?_
  refine g_aload_n O dX4_append_21 0 rfl rfl ?_
  refine g_get O hiX4_append_X4 0 rfl rfl 2 (by decide) (by decide +kernel) rfl dX4_append_22 ?_
  refine g_aload_n O dX4_append_25 0 rfl rfl ?_
  refine g_get O hiX4_append_X4 0 rfl rfl 4 (by decide) (by decide +kernel) rfl dX4_append_26 ?_
  refine g_iload_n O dX4_append_29 2 rfl rfl ?_
  refine g_iastN (f' := (nf (upf fa ps y))) (ws' := [(h0, .inr (4, [.int (nI lim), .ref h1, .ref h2, .ref h3, .int (nI ps)])), (h1, .inl ((TY D)[0].1, lim, .inl (nf (upf fs ps x)))), (h2, .inl ((TY D)[0].1, lim, .inl (nf (upf fa ps y)))), (h3, .inl ((TY D)[0].1, lim, .inl (nf fk)))]) O 2 rfl (by omega) (by omega) dX4_append_30 (nf_upd _ _ _) rfl ?_
  refine g_aload_n O dX4_append_31 0 rfl rfl ?_
  refine g_get O hiX4_append_X4 0 rfl rfl 3 (by decide) (by decide +kernel) rfl dX4_append_32 ?_
  refine g_aload_n O dX4_append_35 0 rfl rfl ?_
  refine g_get O hiX4_append_X4 0 rfl rfl 4 (by decide) (by decide +kernel) rfl dX4_append_36 ?_
  refine g_iload_n O dX4_append_39 3 rfl rfl ?_
  refine g_iastN (f' := (nf (upf fk ps t))) (ws' := [(h0, .inr (4, [.int (nI lim), .ref h1, .ref h2, .ref h3, .int (nI ps)])), (h1, .inl ((TY D)[0].1, lim, .inl (nf (upf fs ps x)))), (h2, .inl ((TY D)[0].1, lim, .inl (nf (upf fa ps y)))), (h3, .inl ((TY D)[0].1, lim, .inl (nf (upf fk ps t))))]) O 3 rfl (by omega) (by omega) dX4_append_40 (nf_upd _ _ _) rfl ?_
  refine g_aload_n O dX4_append_41 0 rfl rfl ?_
  refine g_dup O dX4_append_42 rfl ?_
  refine g_get O hiX4_append_X4 0 rfl rfl 4 (by decide) (by decide +kernel) rfl dX4_append_43 ?_
  refine g_iconst (x := (nI 1)) O dX4_append_46 (by decide +kernel) ?_
  refine g_iaddN O dX4_append_47 ?_
  refine g_put (ws' := [(h0, .inr (4, [.int (nI lim), .ref h1, .ref h2, .ref h3, .int (nI (ps + 1))])), (h1, .inl ((TY D)[0].1, lim, .inl (nf (upf fs ps x)))), (h2, .inl ((TY D)[0].1, lim, .inl (nf (upf fa ps y)))), (h3, .inl ((TY D)[0].1, lim, .inl (nf (upf fk ps t))))]) O hiX4_append_X4 tyX4 tyX4_ok nmX4 0 rfl rfl 4 (by decide) (by decide +kernel) rfl (tyX4_ok 4 (by decide)) rfl rfl (Nat.le_of_ble_eq_true rfl) dX4_append_48 rfl ?_
  exact E 51 _ _ dX4_append_51 ⟨rfl, rfl⟩

theorem hiX4_appendAll_X4 : ∀ w ∈ wsX40, w ∈ wsX4_appendAll := by decide +kernel
set_option maxHeartbeats 4000000 in
set_option maxRecDepth 100000 in
/-- all bowings of another piece -/
theorem kX4_appendAll (l : Launch) (D : va_G) (z : Nat × Nat × Nat) (h0 : Nat) (h1 : Nat) (h2 : Nat) (h3 : Nat) (o0 : Nat) (o1 : Nat) (o2 : Nat) (o3 : Nat) (lim : Nat) (ps : Nat) (lio : Nat) (po : Nat) (fs : Nat → Nat) (fa : Nat → Nat) (fk : Nat → Nat) (os : Nat → Nat) (oa : Nat → Nat) (ok : Nat → Nat) (hl : ps + po ≤ lim) (ho : po ≤ lio) (hlim : lim < 1073741824) (hlio : lio < 1073741824) : CM l yX4_appendAll wsX4_appendAll ({ frames := 1, cells := 0, slots := 0, locals := 23 } : Room) D z [.ref h0, .ref o0] [(h0, .inr (4, [.int (nI lim), .ref h1, .ref h2, .ref h3, .int (nI ps)])), (h1, .inl ((TY D)[0].1, lim, .inl (nf fs))), (h2, .inl ((TY D)[0].1, lim, .inl (nf fa))), (h3, .inl ((TY D)[0].1, lim, .inl (nf fk))), (o0, .inr (4, [.int (nI lio), .ref o1, .ref o2, .ref o3, .int (nI po)])), (o1, .inl ((TY D)[0].1, lio, .inl (nf os))), (o2, .inl ((TY D)[0].1, lio, .inl (nf oa))), (o3, .inl ((TY D)[0].1, lio, .inl (nf ok)))] (fun r w => r = none ∧ w = [(h0, .inr (4, [.int (nI lim), .ref h1, .ref h2, .ref h3, .int (nI (ps + po))])), (h1, .inl ((TY D)[0].1, lim, .inl (nf (apf fs os ps po)))), (h2, .inl ((TY D)[0].1, lim, .inl (nf (apf fa oa ps po)))), (h3, .inl ((TY D)[0].1, lim, .inl (nf (apf fk ok ps po)))), (o0, .inr (4, [.int (nI lio), .ref o1, .ref o2, .ref o3, .int (nI po)])), (o1, .inl ((TY D)[0].1, lio, .inl (nf os))), (o2, .inl ((TY D)[0].1, lio, .inl (nf oa))), (o3, .inl ((TY D)[0].1, lio, .inl (nf ok)))]) 0 0 := by
  refine CM_void (own := RX4) (cc := cX4_appendAll) (maxL := 3) (L0 := [(0, .ref h0), (1, .ref o0)]) (by decide) rfl rfl (Nat.le_of_ble_eq_true rfl) rfl (fun X O E => ?_)
  refine g_iconst (x := (nI 0)) O dX4_appendAll_0 (by decide +kernel) ?_
  refine g_istore_n (L' := [(0, .ref h0), (1, .ref o0), (2, .int (nI 0))]) O dX4_appendAll_1 rfl (by decide) [1, 2, 0] rfl ?_
  have J2 : ∀ (n_ : Nat), ∀ (i_ : Nat) (Fs : Nat → Nat) (Fa : Nat → Nat) (Fk : Nat → Nat) (hi_ : i_ ≤ po) (hF : Fs = apf fs os ps i_ ∧ Fa = apf fa oa ps i_ ∧ Fk = apf fk ok ps i_), po - i_ < n_ → G X 0 0 2 [(0, .ref h0), (1, .ref o0), (2, .int (nI i_))] [] [(h0, .inr (4, [.int (nI lim), .ref h1, .ref h2, .ref h3, .int (nI (ps + i_))])), (h1, .inl ((TY D)[0].1, lim, .inl (nf Fs))), (h2, .inl ((TY D)[0].1, lim, .inl (nf Fa))), (h3, .inl ((TY D)[0].1, lim, .inl (nf Fk))), (o0, .inr (4, [.int (nI lio), .ref o1, .ref o2, .ref o3, .int (nI po)])), (o1, .inl ((TY D)[0].1, lio, .inl (nf os))), (o2, .inl ((TY D)[0].1, lio, .inl (nf oa))), (o3, .inl ((TY D)[0].1, lio, .inl (nf ok)))] := by
    intro n_
    induction n_ with
    | zero => intro i_ Fs Fa Fk hi_ hF hm_; exact absurd hm_ (Nat.not_lt_zero _)
    | succ n_ ih_ =>
      intro i_ Fs Fa Fk hi_ hF hm_
      refine g_iload_n O dX4_appendAll_2 2 rfl rfl ?_
      refine g_aload_n O dX4_appendAll_3 1 rfl rfl ?_
      refine g_get O hiX4_appendAll_X4 4 rfl rfl 4 (by decide) (by decide +kernel) rfl dX4_appendAll_4 ?_
      refine g_icmp_geN (tgt := 38) O (by omega) (by omega) dX4_appendAll_7 (by decide) (fun c_1 => ?_) (fun c_1 => ?_)
      ·
        obtain ⟨rfl, rfl, rfl⟩ := hF
        obtain rfl : po = i_ := by omega
        exact E 38 _ _ dX4_appendAll_38 ⟨rfl, rfl⟩
      ·
        refine g_aload_n O dX4_appendAll_10 0 rfl rfl ?_
        refine g_aload_n O dX4_appendAll_11 1 rfl rfl ?_
        refine g_get O hiX4_appendAll_X4 4 rfl rfl 1 (by decide) (by decide +kernel) rfl dX4_appendAll_12 ?_
        refine g_iload_n O dX4_appendAll_15 2 rfl rfl ?_
        refine g_ialdN O 5 rfl (by omega) (by omega) dX4_appendAll_16 ?_
        refine g_aload_n O dX4_appendAll_17 1 rfl rfl ?_
        refine g_get O hiX4_appendAll_X4 4 rfl rfl 2 (by decide) (by decide +kernel) rfl dX4_appendAll_18 ?_
        refine g_iload_n O dX4_appendAll_21 2 rfl rfl ?_
        refine g_ialdN O 6 rfl (by omega) (by omega) dX4_appendAll_22 ?_
        refine g_aload_n O dX4_appendAll_23 1 rfl rfl ?_
        refine g_get O hiX4_appendAll_X4 4 rfl rfl 3 (by decide) (by decide +kernel) rfl dX4_appendAll_24 ?_
        refine g_iload_n O dX4_appendAll_27 2 rfl rfl ?_
        refine g_ialdN O 7 rfl (by omega) (by omega) dX4_appendAll_28 ?_
        refine g_callV (As := [.int (nI (os i_)), .int (nI (oa i_)), .int (nI (ok i_))]) (wr := [(o0, .inr (4, [.int (nI lio), .ref o1, .ref o2, .ref o3, .int (nI po)])), (o1, .inl ((TY D)[0].1, lio, .inl (nf os))), (o2, .inl ((TY D)[0].1, lio, .inl (nf oa))), (o3, .inl ((TY D)[0].1, lio, .inl (nf ok)))]) O (kX4_append l D z h0 h1 h2 h3 lim (ps + i_) (os i_) (oa i_) (ok i_) Fs Fa Fk (by first | assumption | omega) (by first | assumption | omega)) gX4_appendAll_X4_append rfl rfl rfl 3 (by decide +kernel) (by decide) (by decide) (q0 := 0) rfl rfl rfl [0, 1, 2, 3] [4, 5, 6, 7] rfl (by decide) rfl (by decide) (by decide) rfl rfl (Nat.le_of_ble_eq_true rfl) dX4_appendAll_29 (fun r_2 w_3 hp => ?_)
        obtain ⟨rfl, rfl⟩ := hp
        refine g_eq (st' := []) (ws' := [(o0, .inr (4, [.int (nI lio), .ref o1, .ref o2, .ref o3, .int (nI po)])), (o1, .inl ((TY D)[0].1, lio, .inl (nf os))), (o2, .inl ((TY D)[0].1, lio, .inl (nf oa))), (o3, .inl ((TY D)[0].1, lio, .inl (nf ok))), (h0, .inr (4, [.int (nI lim), .ref h1, .ref h2, .ref h3, .int (nI ((ps + i_) + 1))])), (h1, .inl ((TY D)[0].1, lim, .inl (nf (upf Fs (ps + i_) (os i_))))), (h2, .inl ((TY D)[0].1, lim, .inl (nf (upf Fa (ps + i_) (oa i_))))), (h3, .inl ((TY D)[0].1, lim, .inl (nf (upf Fk (ps + i_) (ok i_)))))]) rfl rfl rfl ?_
        refine g_iincN (L' := [(0, .ref h0), (1, .ref o0), (2, .int (nI (i_ + 1)))]) O dX4_appendAll_32 2 rfl (by decide) [1, 2, 0] rfl ?_
        refine g_goto (tgt := 2) O dX4_appendAll_35 (by decide) ?_
        refine g_perm (ws' := [(h0, .inr (4, [.int (nI lim), .ref h1, .ref h2, .ref h3, .int (nI ((ps + i_) + 1))])), (h1, .inl ((TY D)[0].1, lim, .inl (nf (upf Fs (ps + i_) (os i_))))), (h2, .inl ((TY D)[0].1, lim, .inl (nf (upf Fa (ps + i_) (oa i_))))), (h3, .inl ((TY D)[0].1, lim, .inl (nf (upf Fk (ps + i_) (ok i_))))), (o0, .inr (4, [.int (nI lio), .ref o1, .ref o2, .ref o3, .int (nI po)])), (o1, .inl ((TY D)[0].1, lio, .inl (nf os))), (o2, .inl ((TY D)[0].1, lio, .inl (nf oa))), (o3, .inl ((TY D)[0].1, lio, .inl (nf ok)))]) [4, 5, 6, 7, 0, 1, 2, 3] rfl (by decide) ?_
        exact ih_ _ _ _ _ (by first | assumption | omega | rfl) (by rw [hF.1, hF.2.1, hF.2.2]; exact ⟨apf_s _ _ _ _, apf_s _ _ _ _, apf_s _ _ _ _⟩) (by omega)
  exact J2 _ 0 _ _ _ (Nat.zero_le _) (⟨(apf_0 _ _ _).symm, (apf_0 _ _ _).symm, (apf_0 _ _ _).symm⟩) (Nat.lt_succ_self _)

theorem hiX4_copyFrom_X4 : ∀ w ∈ wsX40, w ∈ wsX4_copyFrom := by decide +kernel
set_option maxHeartbeats 4000000 in
set_option maxRecDepth 100000 in
/-- a piece like another -/
theorem kX4_copyFrom (l : Launch) (D : va_G) (z : Nat × Nat × Nat) (h0 : Nat) (h1 : Nat) (h2 : Nat) (h3 : Nat) (o0 : Nat) (o1 : Nat) (o2 : Nat) (o3 : Nat) (lim : Nat) (ps : Nat) (lio : Nat) (po : Nat) (fs : Nat → Nat) (fa : Nat → Nat) (fk : Nat → Nat) (os : Nat → Nat) (oa : Nat → Nat) (ok : Nat → Nat) (hl : po ≤ lim) (ho : po ≤ lio) (hlim : lim < 1073741824) (hlio : lio < 1073741824) : CM l yX4_copyFrom wsX4_copyFrom ({ frames := 2, cells := 0, slots := 0, locals := 45 } : Room) D z [.ref h0, .ref o0] [(h0, .inr (4, [.int (nI lim), .ref h1, .ref h2, .ref h3, .int (nI ps)])), (h1, .inl ((TY D)[0].1, lim, .inl (nf fs))), (h2, .inl ((TY D)[0].1, lim, .inl (nf fa))), (h3, .inl ((TY D)[0].1, lim, .inl (nf fk))), (o0, .inr (4, [.int (nI lio), .ref o1, .ref o2, .ref o3, .int (nI po)])), (o1, .inl ((TY D)[0].1, lio, .inl (nf os))), (o2, .inl ((TY D)[0].1, lio, .inl (nf oa))), (o3, .inl ((TY D)[0].1, lio, .inl (nf ok)))] (fun r w => r = none ∧ w = [(h0, .inr (4, [.int (nI lim), .ref h1, .ref h2, .ref h3, .int (nI po)])), (h1, .inl ((TY D)[0].1, lim, .inl (nf (apf fs os 0 po)))), (h2, .inl ((TY D)[0].1, lim, .inl (nf (apf fa oa 0 po)))), (h3, .inl ((TY D)[0].1, lim, .inl (nf (apf fk ok 0 po)))), (o0, .inr (4, [.int (nI lio), .ref o1, .ref o2, .ref o3, .int (nI po)])), (o1, .inl ((TY D)[0].1, lio, .inl (nf os))), (o2, .inl ((TY D)[0].1, lio, .inl (nf oa))), (o3, .inl ((TY D)[0].1, lio, .inl (nf ok)))]) 0 0 := by
  refine CM_void (own := RX4) (cc := cX4_copyFrom) (maxL := 2) (L0 := [(0, .ref h0), (1, .ref o0)]) (by decide) rfl rfl (Nat.le_of_ble_eq_true rfl) rfl (fun X O E => ?_)
  refine g_aload_n O dX4_copyFrom_0 0 rfl rfl ?_
  refine g_iconst (x := (nI 0)) O dX4_copyFrom_1 (by decide +kernel) ?_
  refine g_put (ws' := [(h0, .inr (4, [.int (nI lim), .ref h1, .ref h2, .ref h3, .int (nI 0)])), (h1, .inl ((TY D)[0].1, lim, .inl (nf fs))), (h2, .inl ((TY D)[0].1, lim, .inl (nf fa))), (h3, .inl ((TY D)[0].1, lim, .inl (nf fk))), (o0, .inr (4, [.int (nI lio), .ref o1, .ref o2, .ref o3, .int (nI po)])), (o1, .inl ((TY D)[0].1, lio, .inl (nf os))), (o2, .inl ((TY D)[0].1, lio, .inl (nf oa))), (o3, .inl ((TY D)[0].1, lio, .inl (nf ok)))]) O hiX4_copyFrom_X4 tyX4 tyX4_ok nmX4 0 rfl rfl 4 (by decide) (by decide +kernel) rfl (tyX4_ok 4 (by decide)) rfl rfl (Nat.le_of_ble_eq_true rfl) dX4_copyFrom_2 rfl ?_
  refine g_aload_n O dX4_copyFrom_5 0 rfl rfl ?_
  refine g_aload_n O dX4_copyFrom_6 1 rfl rfl ?_
  refine g_callV (As := [.ref o0]) (wr := []) O (kX4_appendAll l D z h0 h1 h2 h3 o0 o1 o2 o3 lim 0 lio po fs fa fk os oa ok (by first | assumption | omega) (by first | assumption | omega) (by first | assumption | omega) (by first | assumption | omega)) gX4_copyFrom_X4_appendAll rfl rfl rfl 1 (by decide +kernel) (by decide) (by decide) (q0 := 0) rfl rfl rfl [0, 1, 2, 3, 4, 5, 6, 7] [] rfl (by decide) rfl (by decide) (by decide) rfl rfl (Nat.le_of_ble_eq_true rfl) dX4_copyFrom_7 (fun r_1 w_2 hp => ?_)
  obtain ⟨rfl, rfl⟩ := hp
  refine g_eq (st' := []) (ws' := [(h0, .inr (4, [.int (nI lim), .ref h1, .ref h2, .ref h3, .int (nI (0 + po))])), (h1, .inl ((TY D)[0].1, lim, .inl (nf (apf fs os 0 po)))), (h2, .inl ((TY D)[0].1, lim, .inl (nf (apf fa oa 0 po)))), (h3, .inl ((TY D)[0].1, lim, .inl (nf (apf fk ok 0 po)))), (o0, .inr (4, [.int (nI lio), .ref o1, .ref o2, .ref o3, .int (nI po)])), (o1, .inl ((TY D)[0].1, lio, .inl (nf os))), (o2, .inl ((TY D)[0].1, lio, .inl (nf oa))), (o3, .inl ((TY D)[0].1, lio, .inl (nf ok)))]) rfl rfl rfl ?_
  exact E 10 _ _ dX4_copyFrom_10 (by rw [Nat.zero_add]; exact ⟨rfl, rfl⟩)

theorem hiX4_dropFirst_X4 : ∀ w ∈ wsX40, w ∈ wsX4_dropFirst := by decide +kernel
set_option maxHeartbeats 4000000 in
set_option maxRecDepth 100000 in
/-- the first bowings go -/
theorem kX4_dropFirst (l : Launch) (D : va_G) (z : Nat × Nat × Nat) (h0 : Nat) (h1 : Nat) (h2 : Nat) (h3 : Nat) (lim : Nat) (ps : Nat) (d : Nat) (fs : Nat → Nat) (fa : Nat → Nat) (fk : Nat → Nat) (hl : ps ≤ lim) (hd : d ≤ ps) (hlim : lim < 1073741824) : CM l yX4_dropFirst wsX4_dropFirst ({ frames := 1, cells := 0, slots := 0, locals := 23 } : Room) D z [.ref h0, .int (nI d)] [(h0, .inr (4, [.int (nI lim), .ref h1, .ref h2, .ref h3, .int (nI ps)])), (h1, .inl ((TY D)[0].1, lim, .inl (nf fs))), (h2, .inl ((TY D)[0].1, lim, .inl (nf fa))), (h3, .inl ((TY D)[0].1, lim, .inl (nf fk)))] (fun r w => r = none ∧ w = [(h0, .inr (4, [.int (nI lim), .ref h1, .ref h2, .ref h3, .int (nI (ps - d))])), (h1, .inl ((TY D)[0].1, lim, .inl (nf (dff fs d (ps - d))))), (h2, .inl ((TY D)[0].1, lim, .inl (nf (dff fa d (ps - d))))), (h3, .inl ((TY D)[0].1, lim, .inl (nf (dff fk d (ps - d)))))]) 0 0 := by
  refine CM_void (own := RX4) (cc := cX4_dropFirst) (maxL := 4) (L0 := [(0, .ref h0), (1, .int (nI d))]) (by decide) rfl rfl (Nat.le_of_ble_eq_true rfl) rfl (fun X O E => ?_)
  refine g_aload_n O dX4_dropFirst_0 0 rfl rfl ?_
  refine g_get O hiX4_dropFirst_X4 0 rfl rfl 4 (by decide) (by decide +kernel) rfl dX4_dropFirst_1 ?_
  refine g_istore_n (L' := [(0, .ref h0), (1, .int (nI d)), (2, .int (nI ps))]) O dX4_dropFirst_4 rfl (by decide) [1, 2, 0] rfl ?_
  refine g_aload_n O dX4_dropFirst_5 0 rfl rfl ?_
  refine g_iconst (x := (nI 0)) O dX4_dropFirst_6 (by decide +kernel) ?_
  refine g_put (ws' := [(h0, .inr (4, [.int (nI lim), .ref h1, .ref h2, .ref h3, .int (nI 0)])), (h1, .inl ((TY D)[0].1, lim, .inl (nf fs))), (h2, .inl ((TY D)[0].1, lim, .inl (nf fa))), (h3, .inl ((TY D)[0].1, lim, .inl (nf fk)))]) O hiX4_dropFirst_X4 tyX4 tyX4_ok nmX4 0 rfl rfl 4 (by decide) (by decide +kernel) rfl (tyX4_ok 4 (by decide)) rfl rfl (Nat.le_of_ble_eq_true rfl) dX4_dropFirst_7 rfl ?_
  refine g_iload_n O dX4_dropFirst_10 1 rfl rfl ?_
  refine g_iconst (x := (nI 0)) O dX4_dropFirst_11 (by decide +kernel) ?_
  refine g_max O (by decide +kernel) (by decide +kernel) (by decide +kernel) (by decide +kernel) (by decide) (Nat.le_of_ble_eq_true rfl) (by decide) dX4_dropFirst_12 ?_
  refine g_eq (st' := [.int (nI (max d 0))]) (by show ([.int (if (nI d) < (nI 0) then (nI 0) else (nI d))] : List Value) = _; rw [nI_max (by omega) (by omega)]) rfl rfl ?_
  rw [Nat.max_eq_left (Nat.zero_le d)]
  refine g_istore_n (L' := [(0, .ref h0), (1, .int (nI d)), (2, .int (nI ps)), (3, .int (nI d))]) O dX4_dropFirst_15 rfl (by decide) [1, 2, 3, 0] rfl ?_
  have J16 : ∀ (n_ : Nat), ∀ (i_ : Nat) (Fs : Nat → Nat) (Fa : Nat → Nat) (Fk : Nat → Nat) (hi_ : d + i_ ≤ ps) (hF : Fs = dff fs d i_ ∧ Fa = dff fa d i_ ∧ Fk = dff fk d i_), ps - i_ < n_ → G X 0 0 16 [(0, .ref h0), (1, .int (nI d)), (2, .int (nI ps)), (3, .int (nI (d + i_)))] [] [(h0, .inr (4, [.int (nI lim), .ref h1, .ref h2, .ref h3, .int (nI i_)])), (h1, .inl ((TY D)[0].1, lim, .inl (nf Fs))), (h2, .inl ((TY D)[0].1, lim, .inl (nf Fa))), (h3, .inl ((TY D)[0].1, lim, .inl (nf Fk)))] := by
    intro n_
    induction n_ with
    | zero => intro i_ Fs Fa Fk hi_ hF hm_; exact absurd hm_ (Nat.not_lt_zero _)
    | succ n_ ih_ =>
      intro i_ Fs Fa Fk hi_ hF hm_
      refine g_iload_n O dX4_dropFirst_16 3 rfl rfl ?_
      refine g_iload_n O dX4_dropFirst_17 2 rfl rfl ?_
      refine g_icmp_geN (tgt := 49) O (by omega) (by omega) dX4_dropFirst_18 (by decide) (fun c_1 => ?_) (fun c_1 => ?_)
      ·
        obtain ⟨rfl, rfl, rfl⟩ := hF
        obtain rfl : i_ = ps - d := by omega
        exact E 49 _ _ dX4_dropFirst_49 ⟨rfl, rfl⟩
      ·
        refine g_aload_n O dX4_dropFirst_21 0 rfl rfl ?_
        refine g_aload_n O dX4_dropFirst_22 0 rfl rfl ?_
        refine g_get O hiX4_dropFirst_X4 0 rfl rfl 1 (by decide) (by decide +kernel) rfl dX4_dropFirst_23 ?_
        refine g_iload_n O dX4_dropFirst_26 3 rfl rfl ?_
        refine g_ialdN O 1 rfl (by omega) (by omega) dX4_dropFirst_27 ?_
        refine g_aload_n O dX4_dropFirst_28 0 rfl rfl ?_
        refine g_get O hiX4_dropFirst_X4 0 rfl rfl 2 (by decide) (by decide +kernel) rfl dX4_dropFirst_29 ?_
        refine g_iload_n O dX4_dropFirst_32 3 rfl rfl ?_
        refine g_ialdN O 2 rfl (by omega) (by omega) dX4_dropFirst_33 ?_
        refine g_aload_n O dX4_dropFirst_34 0 rfl rfl ?_
        refine g_get O hiX4_dropFirst_X4 0 rfl rfl 3 (by decide) (by decide +kernel) rfl dX4_dropFirst_35 ?_
        refine g_iload_n O dX4_dropFirst_38 3 rfl rfl ?_
        refine g_ialdN O 3 rfl (by omega) (by omega) dX4_dropFirst_39 ?_
        refine g_callV (As := [.int (nI (Fs (d + i_))), .int (nI (Fa (d + i_))), .int (nI (Fk (d + i_)))]) (wr := []) O (kX4_append l D z h0 h1 h2 h3 lim i_ (Fs (d + i_)) (Fa (d + i_)) (Fk (d + i_)) Fs Fa Fk (by first | assumption | omega) (by first | assumption | omega)) gX4_dropFirst_X4_append rfl rfl rfl 3 (by decide +kernel) (by decide) (by decide) (q0 := 0) rfl rfl rfl [0, 1, 2, 3] [] rfl (by decide) rfl (by decide) (by decide) rfl rfl (Nat.le_of_ble_eq_true rfl) dX4_dropFirst_40 (fun r_2 w_3 hp => ?_)
        obtain ⟨rfl, rfl⟩ := hp
        refine g_eq (st' := []) (ws' := [(h0, .inr (4, [.int (nI lim), .ref h1, .ref h2, .ref h3, .int (nI (i_ + 1))])), (h1, .inl ((TY D)[0].1, lim, .inl (nf (upf Fs i_ (Fs (d + i_)))))), (h2, .inl ((TY D)[0].1, lim, .inl (nf (upf Fa i_ (Fa (d + i_)))))), (h3, .inl ((TY D)[0].1, lim, .inl (nf (upf Fk i_ (Fk (d + i_))))))]) rfl rfl rfl ?_
        refine g_iincN (L' := [(0, .ref h0), (1, .int (nI d)), (2, .int (nI ps)), (3, .int (nI (d + i_ + 1)))]) O dX4_dropFirst_43 3 rfl (by decide) [1, 2, 3, 0] rfl ?_
        refine g_goto (tgt := 16) O dX4_dropFirst_46 (by decide) ?_
        exact ih_ (i_ + 1) _ _ _ (by first | assumption | omega | rfl) (by rw [hF.1, hF.2.1, hF.2.2]; exact ⟨dff_s _ _ _, dff_s _ _ _, dff_s _ _ _⟩) (by omega)
  exact J16 _ 0 _ _ _ (hd) (⟨(dff_0 _ _).symm, (dff_0 _ _).symm, (dff_0 _ _).symm⟩) (Nat.lt_succ_self _)

theorem hiX4_sizeAt_X4 : ∀ w ∈ wsX40, w ∈ wsX4_sizeAt := by decide +kernel
set_option maxHeartbeats 4000000 in
set_option maxRecDepth 100000 in
/-- how many bowings at a side -/
theorem kX4_sizeAt (l : Launch) (D : va_G) (z : Nat × Nat × Nat) (h0 : Nat) (h1 : Nat) (h2 : Nat) (h3 : Nat) (lim : Nat) (ps : Nat) (x : Nat) (fs : Nat → Nat) (fa : Nat → Nat) (fk : Nat → Nat) (hl : ps ≤ lim) (hlim : lim < 1073741824) (hx : x < 2147483648) (hfs : ∀ j, j < ps → fs j < 2147483648) : CM l yX4_sizeAt wsX4_sizeAt ({ frames := 0, cells := 0, slots := 0, locals := 0 } : Room) D z [.ref h0, .int (nI x)] [(h0, .inr (4, [.int (nI lim), .ref h1, .ref h2, .ref h3, .int (nI ps)])), (h1, .inl ((TY D)[0].1, lim, .inl (nf fs))), (h2, .inl ((TY D)[0].1, lim, .inl (nf fa))), (h3, .inl ((TY D)[0].1, lim, .inl (nf fk)))] (fun r w => r = some (.int (nI (cntB (isB fs x) ps))) ∧ w = [(h0, .inr (4, [.int (nI lim), .ref h1, .ref h2, .ref h3, .int (nI ps)])), (h1, .inl ((TY D)[0].1, lim, .inl (nf fs))), (h2, .inl ((TY D)[0].1, lim, .inl (nf fa))), (h3, .inl ((TY D)[0].1, lim, .inl (nf fk)))]) 0 0 := by
  refine CM_int (own := RX4) (cc := cX4_sizeAt) (maxL := 4) (L0 := [(0, .ref h0), (1, .int (nI x))]) (by decide) rfl rfl (Nat.le_of_ble_eq_true rfl) rfl (fun X O E => ?_)
  refine g_iconst (x := (nI 0)) O dX4_sizeAt_0 (by decide +kernel) ?_
  refine g_istore_n (L' := [(0, .ref h0), (1, .int (nI x)), (2, .int (nI 0))]) O dX4_sizeAt_1 rfl (by decide) [1, 2, 0] rfl ?_
  refine g_iconst (x := (nI 0)) O dX4_sizeAt_2 (by decide +kernel) ?_
  refine g_istore_n (L' := [(0, .ref h0), (1, .int (nI x)), (2, .int (nI 0)), (3, .int (nI 0))]) O dX4_sizeAt_3 rfl (by decide) [1, 2, 3, 0] rfl ?_
  have J4 : ∀ (n_ : Nat), ∀ (i_ : Nat) (c_ : Nat) (hi_ : i_ ≤ ps) (hc_ : c_ = cntB (isB fs x) i_), ps - i_ < n_ → G X 0 0 4 [(0, .ref h0), (1, .int (nI x)), (2, .int (nI c_)), (3, .int (nI i_))] [] [(h0, .inr (4, [.int (nI lim), .ref h1, .ref h2, .ref h3, .int (nI ps)])), (h1, .inl ((TY D)[0].1, lim, .inl (nf fs))), (h2, .inl ((TY D)[0].1, lim, .inl (nf fa))), (h3, .inl ((TY D)[0].1, lim, .inl (nf fk)))] := by
    intro n_
    induction n_ with
    | zero => intro i_ c_ hi_ hc_ hm_; exact absurd hm_ (Nat.not_lt_zero _)
    | succ n_ ih_ =>
      intro i_ c_ hi_ hc_ hm_
      have hcl := cntB_le (isB fs x) i_
      refine g_iload_n O dX4_sizeAt_4 3 rfl rfl ?_
      refine g_aload_n O dX4_sizeAt_5 0 rfl rfl ?_
      refine g_get O hiX4_sizeAt_X4 0 rfl rfl 4 (by decide) (by decide +kernel) rfl dX4_sizeAt_6 ?_
      refine g_icmp_geN (tgt := 31) O (by omega) (by omega) dX4_sizeAt_9 (by decide) (fun c_1 => ?_) (fun c_1 => ?_)
      ·
        have hpi : ps = i_ := by omega
        refine g_iload_n O dX4_sizeAt_31 2 rfl rfl ?_
        exact E 32 _ (nI c_) _ dX4_sizeAt_32 (by rw [hc_, hpi]; exact ⟨rfl, rfl⟩)
      ·
        have hfi := hfs i_ c_1
        refine g_aload_n O dX4_sizeAt_12 0 rfl rfl ?_
        refine g_get O hiX4_sizeAt_X4 0 rfl rfl 1 (by decide) (by decide +kernel) rfl dX4_sizeAt_13 ?_
        refine g_iload_n O dX4_sizeAt_16 3 rfl rfl ?_
        refine g_ialdN O 1 rfl (by omega) (by omega) dX4_sizeAt_17 ?_
        refine g_iload_n O dX4_sizeAt_18 1 rfl rfl ?_
        refine g_icmp_neN (tgt := 25) O (by omega) (by omega) dX4_sizeAt_19 (by decide) (fun c_2 => ?_) (fun c_2 => ?_)
        ·
          refine g_iincN (L' := [(0, .ref h0), (1, .int (nI x)), (2, .int (nI c_)), (3, .int (nI (i_ + 1)))]) O dX4_sizeAt_25 3 rfl (by decide) [1, 2, 3, 0] rfl ?_
          refine g_goto (tgt := 4) O dX4_sizeAt_28 (by decide) ?_
          exact ih_ (i_ + 1) _ (by first | assumption | omega | rfl) (by first | exact (by rw [hc_]; exact (cntB_t (by simp only [isB]; simp_all)).symm) | exact (by rw [hc_]; exact (cntB_f (by simp only [isB]; simp_all)).symm)) (by omega)
        ·
          refine g_iincN (L' := [(0, .ref h0), (1, .int (nI x)), (2, .int (nI (c_ + 1))), (3, .int (nI i_))]) O dX4_sizeAt_22 2 rfl (by decide) [1, 2, 0, 3] rfl ?_
          refine g_iincN (L' := [(0, .ref h0), (1, .int (nI x)), (2, .int (nI (c_ + 1))), (3, .int (nI (i_ + 1)))]) O dX4_sizeAt_25 3 rfl (by decide) [1, 2, 3, 0] rfl ?_
          refine g_goto (tgt := 4) O dX4_sizeAt_28 (by decide) ?_
          exact ih_ (i_ + 1) _ (by first | assumption | omega | rfl) (by first | exact (by rw [hc_]; exact (cntB_t (by simp only [isB]; simp_all)).symm) | exact (by rw [hc_]; exact (cntB_f (by simp only [isB]; simp_all)).symm)) (by omega)
  exact J4 _ 0 0 (Nat.zero_le _) (rfl) (Nat.lt_succ_self _)

theorem hiX4_dropSide_X4 : ∀ w ∈ wsX40, w ∈ wsX4_dropSide := by decide +kernel
set_option maxHeartbeats 4000000 in
set_option maxRecDepth 100000 in
/-- all bowings at a side go -/
theorem kX4_dropSide (l : Launch) (D : va_G) (z : Nat × Nat × Nat) (h0 : Nat) (h1 : Nat) (h2 : Nat) (h3 : Nat) (lim : Nat) (ps : Nat) (x : Nat) (fs : Nat → Nat) (fa : Nat → Nat) (fk : Nat → Nat) (hl : ps ≤ lim) (hlim : lim < 1073741824) (hx : x < 2147483648) (hfs : ∀ j, j < ps → fs j < 2147483648) : CM l yX4_dropSide wsX4_dropSide ({ frames := 1, cells := 0, slots := 0, locals := 23 } : Room) D z [.ref h0, .int (nI x)] [(h0, .inr (4, [.int (nI lim), .ref h1, .ref h2, .ref h3, .int (nI ps)])), (h1, .inl ((TY D)[0].1, lim, .inl (nf fs))), (h2, .inl ((TY D)[0].1, lim, .inl (nf fa))), (h3, .inl ((TY D)[0].1, lim, .inl (nf fk)))] (fun r w => r = some (.int (nI (ps - cntB (isN fs x) ps))) ∧ w = [(h0, .inr (4, [.int (nI lim), .ref h1, .ref h2, .ref h3, .int (nI (cntB (isN fs x) ps))])), (h1, .inl ((TY D)[0].1, lim, .inl (nf (flt fs (isN fs x) ps)))), (h2, .inl ((TY D)[0].1, lim, .inl (nf (flt fa (isN fs x) ps)))), (h3, .inl ((TY D)[0].1, lim, .inl (nf (flt fk (isN fs x) ps))))]) 0 0 := by
  refine CM_int (own := RX4) (cc := cX4_dropSide) (maxL := 4) (L0 := [(0, .ref h0), (1, .int (nI x))]) (by decide) rfl rfl (Nat.le_of_ble_eq_true rfl) rfl (fun X O E => ?_)
  refine g_aload_n O dX4_dropSide_0 0 rfl rfl ?_
  refine g_get O hiX4_dropSide_X4 0 rfl rfl 4 (by decide) (by decide +kernel) rfl dX4_dropSide_1 ?_
  refine g_istore_n (L' := [(0, .ref h0), (1, .int (nI x)), (2, .int (nI ps))]) O dX4_dropSide_4 rfl (by decide) [1, 2, 0] rfl ?_
  refine g_aload_n O dX4_dropSide_5 0 rfl rfl ?_
  refine g_iconst (x := (nI 0)) O dX4_dropSide_6 (by decide +kernel) ?_
  refine g_put (ws' := [(h0, .inr (4, [.int (nI lim), .ref h1, .ref h2, .ref h3, .int (nI 0)])), (h1, .inl ((TY D)[0].1, lim, .inl (nf fs))), (h2, .inl ((TY D)[0].1, lim, .inl (nf fa))), (h3, .inl ((TY D)[0].1, lim, .inl (nf fk)))]) O hiX4_dropSide_X4 tyX4 tyX4_ok nmX4 0 rfl rfl 4 (by decide) (by decide +kernel) rfl (tyX4_ok 4 (by decide)) rfl rfl (Nat.le_of_ble_eq_true rfl) dX4_dropSide_7 rfl ?_
  refine g_iconst (x := (nI 0)) O dX4_dropSide_10 (by decide +kernel) ?_
  refine g_istore_n (L' := [(0, .ref h0), (1, .int (nI x)), (2, .int (nI ps)), (3, .int (nI 0))]) O dX4_dropSide_11 rfl (by decide) [1, 2, 3, 0] rfl ?_
  have J12 : ∀ (n_ : Nat), ∀ (i_ : Nat) (c_ : Nat) (Fs : Nat → Nat) (Fa : Nat → Nat) (Fk : Nat → Nat) (hi_ : i_ ≤ ps) (hc_ : c_ = cntB (isN fs x) i_) (hF : Fs = flt fs (isN fs x) i_ ∧ Fa = flt fa (isN fs x) i_ ∧ Fk = flt fk (isN fs x) i_), ps - i_ < n_ → G X 0 0 12 [(0, .ref h0), (1, .int (nI x)), (2, .int (nI ps)), (3, .int (nI i_))] [] [(h0, .inr (4, [.int (nI lim), .ref h1, .ref h2, .ref h3, .int (nI c_)])), (h1, .inl ((TY D)[0].1, lim, .inl (nf Fs))), (h2, .inl ((TY D)[0].1, lim, .inl (nf Fa))), (h3, .inl ((TY D)[0].1, lim, .inl (nf Fk)))] := by
    intro n_
    induction n_ with
    | zero => intro i_ c_ Fs Fa Fk hi_ hc_ hF hm_; exact absurd hm_ (Nat.not_lt_zero _)
    | succ n_ ih_ =>
      intro i_ c_ Fs Fa Fk hi_ hc_ hF hm_
      have hcl := cntB_le (isN fs x) i_
      have hfe : Fs i_ = fs i_ := by rw [hF.1]; exact flt_hi _ _ _ _ hcl
      refine g_iload_n O dX4_dropSide_12 3 rfl rfl ?_
      refine g_iload_n O dX4_dropSide_13 2 rfl rfl ?_
      refine g_icmp_geN (tgt := 55) O (by omega) (by omega) dX4_dropSide_14 (by decide) (fun c_1 => ?_) (fun c_1 => ?_)
      ·
        have hpi : ps = i_ := by omega
        refine g_iload_n O dX4_dropSide_55 2 rfl rfl ?_
        refine g_aload_n O dX4_dropSide_56 0 rfl rfl ?_
        refine g_get O hiX4_dropSide_X4 0 rfl rfl 4 (by decide) (by decide +kernel) rfl dX4_dropSide_57 ?_
        refine g_isubN O (by omega) dX4_dropSide_60 ?_
        exact E 61 _ (nI (ps - c_)) _ dX4_dropSide_61 (by rw [hc_, hF.1, hF.2.1, hF.2.2, hpi]; exact ⟨rfl, rfl⟩)
      ·
        have hfi := hfs i_ c_1
        refine g_aload_n O dX4_dropSide_17 0 rfl rfl ?_
        refine g_get O hiX4_dropSide_X4 0 rfl rfl 1 (by decide) (by decide +kernel) rfl dX4_dropSide_18 ?_
        refine g_iload_n O dX4_dropSide_21 3 rfl rfl ?_
        refine g_ialdN O 1 rfl (by omega) (by omega) dX4_dropSide_22 ?_
        refine g_iload_n O dX4_dropSide_23 1 rfl rfl ?_
        refine g_icmp_eqN (tgt := 49) O (by omega) (by omega) dX4_dropSide_24 (by decide) (fun c_2 => ?_) (fun c_2 => ?_)
        ·
          have hq : isN fs x i_ = false := by simp only [isN]; rw [← hfe, c_2]; simp
          refine g_iincN (L' := [(0, .ref h0), (1, .int (nI x)), (2, .int (nI ps)), (3, .int (nI (i_ + 1)))]) O dX4_dropSide_49 3 rfl (by decide) [1, 2, 3, 0] rfl ?_
          refine g_goto (tgt := 12) O dX4_dropSide_52 (by decide) ?_
          exact ih_ (i_ + 1) _ _ _ _ (by first | assumption | omega | rfl) (by first | exact (by rw [hc_]; exact (cntB_t (by simp only [isN]; simp_all)).symm) | exact (by rw [hc_]; exact (cntB_f (by simp only [isN]; simp_all)).symm)) (by first | exact (by rw [hF.1, hF.2.1, hF.2.2]; exact ⟨(flt_f hq).symm, (flt_f hq).symm, (flt_f hq).symm⟩) | exact (by rw [hc_, hF.1, hF.2.1, hF.2.2]; exact ⟨(flt_t hq).symm, (flt_t hq).symm, (flt_t hq).symm⟩)) (by omega)
        ·
          have hq : isN fs x i_ = true := by simp only [isN]; rw [← hfe]; simp [c_2]
          refine g_aload_n O dX4_dropSide_27 0 rfl rfl ?_
          refine g_aload_n O dX4_dropSide_28 0 rfl rfl ?_
          refine g_get O hiX4_dropSide_X4 0 rfl rfl 1 (by decide) (by decide +kernel) rfl dX4_dropSide_29 ?_
          refine g_iload_n O dX4_dropSide_32 3 rfl rfl ?_
          refine g_ialdN O 1 rfl (by omega) (by omega) dX4_dropSide_33 ?_
          refine g_aload_n O dX4_dropSide_34 0 rfl rfl ?_
          refine g_get O hiX4_dropSide_X4 0 rfl rfl 2 (by decide) (by decide +kernel) rfl dX4_dropSide_35 ?_
          refine g_iload_n O dX4_dropSide_38 3 rfl rfl ?_
          refine g_ialdN O 2 rfl (by omega) (by omega) dX4_dropSide_39 ?_
          refine g_aload_n O dX4_dropSide_40 0 rfl rfl ?_
          refine g_get O hiX4_dropSide_X4 0 rfl rfl 3 (by decide) (by decide +kernel) rfl dX4_dropSide_41 ?_
          refine g_iload_n O dX4_dropSide_44 3 rfl rfl ?_
          refine g_ialdN O 3 rfl (by omega) (by omega) dX4_dropSide_45 ?_
          refine g_callV (As := [.int (nI (Fs i_)), .int (nI (Fa i_)), .int (nI (Fk i_))]) (wr := []) O (kX4_append l D z h0 h1 h2 h3 lim c_ (Fs i_) (Fa i_) (Fk i_) Fs Fa Fk (by first | assumption | omega) (by first | assumption | omega)) gX4_dropSide_X4_append rfl rfl rfl 3 (by decide +kernel) (by decide) (by decide) (q0 := 0) rfl rfl rfl [0, 1, 2, 3] [] rfl (by decide) rfl (by decide) (by decide) rfl rfl (Nat.le_of_ble_eq_true rfl) dX4_dropSide_46 (fun r_3 w_4 hp => ?_)
          obtain ⟨rfl, rfl⟩ := hp
          refine g_eq (st' := []) (ws' := [(h0, .inr (4, [.int (nI lim), .ref h1, .ref h2, .ref h3, .int (nI (c_ + 1))])), (h1, .inl ((TY D)[0].1, lim, .inl (nf (upf Fs c_ (Fs i_))))), (h2, .inl ((TY D)[0].1, lim, .inl (nf (upf Fa c_ (Fa i_))))), (h3, .inl ((TY D)[0].1, lim, .inl (nf (upf Fk c_ (Fk i_)))))]) rfl rfl rfl ?_
          refine g_iincN (L' := [(0, .ref h0), (1, .int (nI x)), (2, .int (nI ps)), (3, .int (nI (i_ + 1)))]) O dX4_dropSide_49 3 rfl (by decide) [1, 2, 3, 0] rfl ?_
          refine g_goto (tgt := 12) O dX4_dropSide_52 (by decide) ?_
          exact ih_ (i_ + 1) _ _ _ _ (by first | assumption | omega | rfl) (by first | exact (by rw [hc_]; exact (cntB_t (by simp only [isN]; simp_all)).symm) | exact (by rw [hc_]; exact (cntB_f (by simp only [isN]; simp_all)).symm)) (by first | exact (by rw [hF.1, hF.2.1, hF.2.2]; exact ⟨(flt_f hq).symm, (flt_f hq).symm, (flt_f hq).symm⟩) | exact (by rw [hc_, hF.1, hF.2.1, hF.2.2]; exact ⟨(flt_t hq).symm, (flt_t hq).symm, (flt_t hq).symm⟩)) (by omega)
  exact J12 _ 0 _ _ _ _ (Nat.zero_le _) (rfl) (⟨rfl, rfl, rfl⟩) (Nat.lt_succ_self _)

theorem hiX4_init_X4 : ∀ w ∈ wsX40, w ∈ wsX4_init := by decide +kernel
set_option maxHeartbeats 4000000 in
set_option maxRecDepth 100000 in
/-- a new piece for 16 -/
theorem kX4_init16 (l : Launch) (D : va_G) (z : Nat × Nat × Nat) (h0 : Nat)  : CM l yX4_init wsX4_init ({ frames := 1, cells := 3, slots := 48, locals := 21 } : Room) D z [.ref h0, .int (nI 16)] [(h0, .inr (4, [.int (nI 0), .null, .null, .null, .int (nI 0)]))] (fun r w => ∃ (q0 : Nat), ∃ (q1 : Nat), ∃ (q2 : Nat), r = none ∧ w = [(h0, .inr (4, [.int (nI 16), .ref q0, .ref q1, .ref q2, .int (nI 0)])), (q0, .inl ((TY D)[0].1, 16, .inl (nf (fun _ => 0)))), (q1, .inl ((TY D)[0].1, 16, .inl (nf (fun _ => 0)))), (q2, .inl ((TY D)[0].1, 16, .inl (nf (fun _ => 0))))]) 3 48 := by
  refine CM_void (own := RX4) (cc := cX4_init) (maxL := 2) (L0 := [(0, .ref h0), (1, .int (nI 16))]) (by decide) rfl rfl (Nat.le_of_ble_eq_true rfl) rfl (fun X O E => ?_)
  refine g_aload_n O dX4_init_0 0 rfl rfl ?_
  refine g_objInit O (by decide +kernel) (by decide +kernel) (by decide +kernel) (by decide) (Nat.le_of_ble_eq_true rfl) dX4_init_1 ?_
  refine g_aload_n O dX4_init_4 0 rfl rfl ?_
  refine g_iconst (x := (nI 0)) O dX4_init_5 (by decide +kernel) ?_
  refine g_put (ws' := [(h0, .inr (4, [.int (nI 0), .null, .null, .null, .int (nI 0)]))]) O hiX4_init_X4 tyX4 tyX4_ok nmX4 0 rfl rfl 4 (by decide) (by decide +kernel) rfl (tyX4_ok 4 (by decide)) rfl rfl (Nat.le_of_ble_eq_true rfl) dX4_init_6 rfl ?_
  refine g_aload_n O dX4_init_9 0 rfl rfl ?_
  refine g_iload_n O dX4_init_10 1 rfl rfl ?_
  refine g_iconst (x := (nI 0)) O dX4_init_11 (by decide +kernel) ?_
  refine g_max O (by decide +kernel) (by decide +kernel) (by decide +kernel) (by decide +kernel) (by decide) (Nat.le_of_ble_eq_true rfl) (by decide) dX4_init_12 ?_
  refine g_eq (st' := [.int (nI 16), .ref h0]) (by rw [show (if (nI 16) < (nI 0) then (nI 0) else (nI 16)) = (nI 16) from by decide +kernel]) rfl rfl ?_
  refine g_putF (ws' := [(h0, .inr (4, [.int (nI 16), .null, .null, .null, .int (nI 0)]))]) O hiX4_init_X4 tyX4 tyX4_ok nmX4 0 rfl rfl 0 (by decide) (by decide +kernel) rfl rfl rfl (tyX4_ok 0 (by decide)) rfl rfl (Nat.le_of_ble_eq_true rfl) dX4_init_15 rfl ?_
  refine g_aload_n O dX4_init_18 0 rfl rfl ?_
  refine g_aload_n O dX4_init_19 0 rfl rfl ?_
  refine g_get O hiX4_init_X4 0 rfl rfl 0 (by decide) (by decide +kernel) rfl dX4_init_20 ?_
  refine g_newI (N := 16) O (by decide +kernel) (nI_pos (by decide)) (nI_clamp (by decide)) (by decide) (by decide) (by decide) dX4_init_23 (fun q_1 => ?_)
  refine g_eq (ws' := [(h0, .inr (4, [.int (nI 16), .null, .null, .null, .int (nI 0)])), (q_1, .inl ((TY D)[0].1, 16, .inl (nf (fun _ => 0))))]) rfl rfl (by rfl) ?_
  refine g_putF (ws' := [(h0, .inr (4, [.int (nI 16), .ref q_1, .null, .null, .int (nI 0)])), (q_1, .inl ((TY D)[0].1, 16, .inl (nf (fun _ => 0))))]) O hiX4_init_X4 tyX4 tyX4_ok nmX4 0 rfl rfl 1 (by decide) (by decide +kernel) rfl rfl rfl (tyX4_ok 1 (by decide)) rfl rfl (Nat.le_of_ble_eq_true rfl) dX4_init_25 rfl ?_
  refine g_aload_n O dX4_init_28 0 rfl rfl ?_
  refine g_aload_n O dX4_init_29 0 rfl rfl ?_
  refine g_get O hiX4_init_X4 0 rfl rfl 0 (by decide) (by decide +kernel) rfl dX4_init_30 ?_
  refine g_newI (N := 16) O (by decide +kernel) (nI_pos (by decide)) (nI_clamp (by decide)) (by decide) (by decide) (by decide) dX4_init_33 (fun q_2 => ?_)
  refine g_eq (ws' := [(h0, .inr (4, [.int (nI 16), .ref q_1, .null, .null, .int (nI 0)])), (q_1, .inl ((TY D)[0].1, 16, .inl (nf (fun _ => 0)))), (q_2, .inl ((TY D)[0].1, 16, .inl (nf (fun _ => 0))))]) rfl rfl (by rfl) ?_
  refine g_putF (ws' := [(h0, .inr (4, [.int (nI 16), .ref q_1, .ref q_2, .null, .int (nI 0)])), (q_1, .inl ((TY D)[0].1, 16, .inl (nf (fun _ => 0)))), (q_2, .inl ((TY D)[0].1, 16, .inl (nf (fun _ => 0))))]) O hiX4_init_X4 tyX4 tyX4_ok nmX4 0 rfl rfl 2 (by decide) (by decide +kernel) rfl rfl rfl (tyX4_ok 2 (by decide)) rfl rfl (Nat.le_of_ble_eq_true rfl) dX4_init_35 rfl ?_
  refine g_aload_n O dX4_init_38 0 rfl rfl ?_
  refine g_aload_n O dX4_init_39 0 rfl rfl ?_
  refine g_get O hiX4_init_X4 0 rfl rfl 0 (by decide) (by decide +kernel) rfl dX4_init_40 ?_
  refine g_newI (N := 16) O (by decide +kernel) (nI_pos (by decide)) (nI_clamp (by decide)) (by decide) (by decide) (by decide) dX4_init_43 (fun q_3 => ?_)
  refine g_eq (ws' := [(h0, .inr (4, [.int (nI 16), .ref q_1, .ref q_2, .null, .int (nI 0)])), (q_1, .inl ((TY D)[0].1, 16, .inl (nf (fun _ => 0)))), (q_2, .inl ((TY D)[0].1, 16, .inl (nf (fun _ => 0)))), (q_3, .inl ((TY D)[0].1, 16, .inl (nf (fun _ => 0))))]) rfl rfl (by rfl) ?_
  refine g_putF (ws' := [(h0, .inr (4, [.int (nI 16), .ref q_1, .ref q_2, .ref q_3, .int (nI 0)])), (q_1, .inl ((TY D)[0].1, 16, .inl (nf (fun _ => 0)))), (q_2, .inl ((TY D)[0].1, 16, .inl (nf (fun _ => 0)))), (q_3, .inl ((TY D)[0].1, 16, .inl (nf (fun _ => 0))))]) O hiX4_init_X4 tyX4 tyX4_ok nmX4 0 rfl rfl 3 (by decide) (by decide +kernel) rfl rfl rfl (tyX4_ok 3 (by decide)) rfl rfl (Nat.le_of_ble_eq_true rfl) dX4_init_45 rfl ?_
  exact E 48 _ _ dX4_init_48 (⟨_, _, _, rfl, rfl⟩)

set_option maxHeartbeats 4000000 in
set_option maxRecDepth 100000 in
/-- a new piece for 60 -/
theorem kX4_init60 (l : Launch) (D : va_G) (z : Nat × Nat × Nat) (h0 : Nat)  : CM l yX4_init wsX4_init ({ frames := 1, cells := 3, slots := 180, locals := 21 } : Room) D z [.ref h0, .int (nI 60)] [(h0, .inr (4, [.int (nI 0), .null, .null, .null, .int (nI 0)]))] (fun r w => ∃ (q0 : Nat), ∃ (q1 : Nat), ∃ (q2 : Nat), r = none ∧ w = [(h0, .inr (4, [.int (nI 60), .ref q0, .ref q1, .ref q2, .int (nI 0)])), (q0, .inl ((TY D)[0].1, 60, .inl (nf (fun _ => 0)))), (q1, .inl ((TY D)[0].1, 60, .inl (nf (fun _ => 0)))), (q2, .inl ((TY D)[0].1, 60, .inl (nf (fun _ => 0))))]) 3 180 := by
  refine CM_void (own := RX4) (cc := cX4_init) (maxL := 2) (L0 := [(0, .ref h0), (1, .int (nI 60))]) (by decide) rfl rfl (Nat.le_of_ble_eq_true rfl) rfl (fun X O E => ?_)
  refine g_aload_n O dX4_init_0 0 rfl rfl ?_
  refine g_objInit O (by decide +kernel) (by decide +kernel) (by decide +kernel) (by decide) (Nat.le_of_ble_eq_true rfl) dX4_init_1 ?_
  refine g_aload_n O dX4_init_4 0 rfl rfl ?_
  refine g_iconst (x := (nI 0)) O dX4_init_5 (by decide +kernel) ?_
  refine g_put (ws' := [(h0, .inr (4, [.int (nI 0), .null, .null, .null, .int (nI 0)]))]) O hiX4_init_X4 tyX4 tyX4_ok nmX4 0 rfl rfl 4 (by decide) (by decide +kernel) rfl (tyX4_ok 4 (by decide)) rfl rfl (Nat.le_of_ble_eq_true rfl) dX4_init_6 rfl ?_
  refine g_aload_n O dX4_init_9 0 rfl rfl ?_
  refine g_iload_n O dX4_init_10 1 rfl rfl ?_
  refine g_iconst (x := (nI 0)) O dX4_init_11 (by decide +kernel) ?_
  refine g_max O (by decide +kernel) (by decide +kernel) (by decide +kernel) (by decide +kernel) (by decide) (Nat.le_of_ble_eq_true rfl) (by decide) dX4_init_12 ?_
  refine g_eq (st' := [.int (nI 60), .ref h0]) (by rw [show (if (nI 60) < (nI 0) then (nI 0) else (nI 60)) = (nI 60) from by decide +kernel]) rfl rfl ?_
  refine g_putF (ws' := [(h0, .inr (4, [.int (nI 60), .null, .null, .null, .int (nI 0)]))]) O hiX4_init_X4 tyX4 tyX4_ok nmX4 0 rfl rfl 0 (by decide) (by decide +kernel) rfl rfl rfl (tyX4_ok 0 (by decide)) rfl rfl (Nat.le_of_ble_eq_true rfl) dX4_init_15 rfl ?_
  refine g_aload_n O dX4_init_18 0 rfl rfl ?_
  refine g_aload_n O dX4_init_19 0 rfl rfl ?_
  refine g_get O hiX4_init_X4 0 rfl rfl 0 (by decide) (by decide +kernel) rfl dX4_init_20 ?_
  refine g_newI (N := 60) O (by decide +kernel) (nI_pos (by decide)) (nI_clamp (by decide)) (by decide) (by decide) (by decide) dX4_init_23 (fun q_1 => ?_)
  refine g_eq (ws' := [(h0, .inr (4, [.int (nI 60), .null, .null, .null, .int (nI 0)])), (q_1, .inl ((TY D)[0].1, 60, .inl (nf (fun _ => 0))))]) rfl rfl (by rfl) ?_
  refine g_putF (ws' := [(h0, .inr (4, [.int (nI 60), .ref q_1, .null, .null, .int (nI 0)])), (q_1, .inl ((TY D)[0].1, 60, .inl (nf (fun _ => 0))))]) O hiX4_init_X4 tyX4 tyX4_ok nmX4 0 rfl rfl 1 (by decide) (by decide +kernel) rfl rfl rfl (tyX4_ok 1 (by decide)) rfl rfl (Nat.le_of_ble_eq_true rfl) dX4_init_25 rfl ?_
  refine g_aload_n O dX4_init_28 0 rfl rfl ?_
  refine g_aload_n O dX4_init_29 0 rfl rfl ?_
  refine g_get O hiX4_init_X4 0 rfl rfl 0 (by decide) (by decide +kernel) rfl dX4_init_30 ?_
  refine g_newI (N := 60) O (by decide +kernel) (nI_pos (by decide)) (nI_clamp (by decide)) (by decide) (by decide) (by decide) dX4_init_33 (fun q_2 => ?_)
  refine g_eq (ws' := [(h0, .inr (4, [.int (nI 60), .ref q_1, .null, .null, .int (nI 0)])), (q_1, .inl ((TY D)[0].1, 60, .inl (nf (fun _ => 0)))), (q_2, .inl ((TY D)[0].1, 60, .inl (nf (fun _ => 0))))]) rfl rfl (by rfl) ?_
  refine g_putF (ws' := [(h0, .inr (4, [.int (nI 60), .ref q_1, .ref q_2, .null, .int (nI 0)])), (q_1, .inl ((TY D)[0].1, 60, .inl (nf (fun _ => 0)))), (q_2, .inl ((TY D)[0].1, 60, .inl (nf (fun _ => 0))))]) O hiX4_init_X4 tyX4 tyX4_ok nmX4 0 rfl rfl 2 (by decide) (by decide +kernel) rfl rfl rfl (tyX4_ok 2 (by decide)) rfl rfl (Nat.le_of_ble_eq_true rfl) dX4_init_35 rfl ?_
  refine g_aload_n O dX4_init_38 0 rfl rfl ?_
  refine g_aload_n O dX4_init_39 0 rfl rfl ?_
  refine g_get O hiX4_init_X4 0 rfl rfl 0 (by decide) (by decide +kernel) rfl dX4_init_40 ?_
  refine g_newI (N := 60) O (by decide +kernel) (nI_pos (by decide)) (nI_clamp (by decide)) (by decide) (by decide) (by decide) dX4_init_43 (fun q_3 => ?_)
  refine g_eq (ws' := [(h0, .inr (4, [.int (nI 60), .ref q_1, .ref q_2, .null, .int (nI 0)])), (q_1, .inl ((TY D)[0].1, 60, .inl (nf (fun _ => 0)))), (q_2, .inl ((TY D)[0].1, 60, .inl (nf (fun _ => 0)))), (q_3, .inl ((TY D)[0].1, 60, .inl (nf (fun _ => 0))))]) rfl rfl (by rfl) ?_
  refine g_putF (ws' := [(h0, .inr (4, [.int (nI 60), .ref q_1, .ref q_2, .ref q_3, .int (nI 0)])), (q_1, .inl ((TY D)[0].1, 60, .inl (nf (fun _ => 0)))), (q_2, .inl ((TY D)[0].1, 60, .inl (nf (fun _ => 0)))), (q_3, .inl ((TY D)[0].1, 60, .inl (nf (fun _ => 0))))]) O hiX4_init_X4 tyX4 tyX4_ok nmX4 0 rfl rfl 3 (by decide) (by decide +kernel) rfl rfl rfl (tyX4_ok 3 (by decide)) rfl rfl (Nat.le_of_ble_eq_true rfl) dX4_init_45 rfl ?_
  exact E 48 _ _ dX4_init_48 (⟨_, _, _, rfl, rfl⟩)
end
section
theorem hiX5_coverWith_X5 : ∀ w ∈ wsX50, w ∈ wsX5_coverWith := by decide +kernel
set_option maxHeartbeats 4000000 in
set_option maxRecDepth 100000 in
/-- so many grains on each place -/
theorem kX5_coverWith (l : Launch) (D : va_G) (z : Nat × Nat × Nat) (h0 : Nat) (h1 : Nat) (h2 : Nat) (h3 : Nat) (h4 : Nat) (h5 : Nat) (nc : Nat) (la : Int32) (st : Int32) (sw : Int32) (fl : Int32) (sk : Int32) (mu : Int32) (g : Nat → Nat) (e : Nat)  : CM l yX5_coverWith wsX5_coverWith ({ frames := 0, cells := 0, slots := 0, locals := 0 } : Room) D z [.ref h0, .int (nI e)] [(h0, .inr (5, [.ref h1, .ref h2, .ref h3, .int (nI nc), .ref h4, .ref h5, .int la, .int st, .int sw, .int fl, .int sk, .int mu])), (h1, .inl ((TY D)[0].1, 144, .inl (nf g)))] (fun r w => r = none ∧ w = [(h0, .inr (5, [.ref h1, .ref h2, .ref h3, .int (nI nc), .ref h4, .ref h5, .int la, .int st, .int sw, .int fl, .int sk, .int mu])), (h1, .inl ((TY D)[0].1, 144, .inl (nf (cvf g e 144))))]) 0 0 := by
  refine CM_void (own := RX5) (cc := cX5_coverWith) (maxL := 3) (L0 := [(0, .ref h0), (1, .int (nI e))]) (by decide) rfl rfl (Nat.le_of_ble_eq_true rfl) rfl (fun X O E => ?_)
  refine g_iconst (x := (nI 0)) O dX5_coverWith_0 (by decide +kernel) ?_
  refine g_istore_n (L' := [(0, .ref h0), (1, .int (nI e)), (2, .int (nI 0))]) O dX5_coverWith_1 rfl (by decide) [1, 2, 0] rfl ?_
  have J2 : ∀ (n_ : Nat), ∀ (i_ : Nat) (hi_ : i_ ≤ 144), 144 - i_ < n_ → G X 0 0 2 [(0, .ref h0), (1, .int (nI e)), (2, .int (nI i_))] [] [(h0, .inr (5, [.ref h1, .ref h2, .ref h3, .int (nI nc), .ref h4, .ref h5, .int la, .int st, .int sw, .int fl, .int sk, .int mu])), (h1, .inl ((TY D)[0].1, 144, .inl (nf (cvf g e i_))))] := by
    intro n_
    induction n_ with
    | zero => intro i_ hi_ hm_; exact absurd hm_ (Nat.not_lt_zero _)
    | succ n_ ih_ =>
      intro i_ hi_ hm_
      refine g_iload_n O dX5_coverWith_2 2 rfl rfl ?_
      refine g_sipush (x := (nI 144)) O dX5_coverWith_3 (by decide +kernel) ?_
      refine g_icmp_geN (tgt := 22) O (by omega) (by omega) dX5_coverWith_6 (by decide) (fun c_1 => ?_) (fun c_1 => ?_)
      ·
        obtain rfl : i_ = 144 := by omega
        exact E 22 _ _ dX5_coverWith_22 ⟨rfl, rfl⟩
      ·
        refine g_aload_n O dX5_coverWith_9 0 rfl rfl ?_
        refine g_get O hiX5_coverWith_X5 0 rfl rfl 0 (by decide) (by decide +kernel) rfl dX5_coverWith_10 ?_
        refine g_iload_n O dX5_coverWith_13 2 rfl rfl ?_
        refine g_iload_n O dX5_coverWith_14 1 rfl rfl ?_
        refine g_iastN (f' := (nf (upf (cvf g e i_) i_ e))) (ws' := [(h0, .inr (5, [.ref h1, .ref h2, .ref h3, .int (nI nc), .ref h4, .ref h5, .int la, .int st, .int sw, .int fl, .int sk, .int mu])), (h1, .inl ((TY D)[0].1, 144, .inl (nf (upf (cvf g e i_) i_ e))))]) O 1 rfl (by omega) (by omega) dX5_coverWith_15 (nf_upd _ _ _) rfl ?_
        refine g_iincN (L' := [(0, .ref h0), (1, .int (nI e)), (2, .int (nI (i_ + 1)))]) O dX5_coverWith_16 2 rfl (by decide) [1, 2, 0] rfl ?_
        refine g_goto (tgt := 2) O dX5_coverWith_19 (by decide) ?_
        exact ih_ (i_ + 1) (by first | assumption | omega | rfl) (by omega)
  exact J2 _ 0 (Nat.zero_le _) (Nat.lt_succ_self _)

theorem hiX5_allGrains_X5 : ∀ w ∈ wsX50, w ∈ wsX5_allGrains := by decide +kernel
set_option maxHeartbeats 4000000 in
set_option maxRecDepth 100000 in
/-- all grains -/
theorem kX5_allGrains (l : Launch) (D : va_G) (z : Nat × Nat × Nat) (h0 : Nat) (h1 : Nat) (h2 : Nat) (h3 : Nat) (h4 : Nat) (h5 : Nat) (nc : Nat) (la : Int32) (st : Int32) (sw : Int32) (fl : Int32) (sk : Int32) (mu : Int32) (g : Nat → Nat)  : CM l yX5_allGrains wsX5_allGrains ({ frames := 0, cells := 0, slots := 0, locals := 0 } : Room) D z [.ref h0] [(h0, .inr (5, [.ref h1, .ref h2, .ref h3, .int (nI nc), .ref h4, .ref h5, .int la, .int st, .int sw, .int fl, .int sk, .int mu])), (h1, .inl ((TY D)[0].1, 144, .inl (nf g)))] (fun r w => r = some (.int (nI (smN g 144))) ∧ w = [(h0, .inr (5, [.ref h1, .ref h2, .ref h3, .int (nI nc), .ref h4, .ref h5, .int la, .int st, .int sw, .int fl, .int sk, .int mu])), (h1, .inl ((TY D)[0].1, 144, .inl (nf g)))]) 0 0 := by
  refine CM_int (own := RX5) (cc := cX5_allGrains) (maxL := 3) (L0 := [(0, .ref h0)]) (by decide) rfl rfl (Nat.le_of_ble_eq_true rfl) rfl (fun X O E => ?_)
  refine g_iconst (x := (nI 0)) O dX5_allGrains_0 (by decide +kernel) ?_
  refine g_istore_n (L' := [(0, .ref h0), (1, .int (nI 0))]) O dX5_allGrains_1 rfl (by decide) [1, 0] rfl ?_
  refine g_iconst (x := (nI 0)) O dX5_allGrains_2 (by decide +kernel) ?_
  refine g_istore_n (L' := [(0, .ref h0), (1, .int (nI 0)), (2, .int (nI 0))]) O dX5_allGrains_3 rfl (by decide) [1, 2, 0] rfl ?_
  have J4 : ∀ (n_ : Nat), ∀ (i_ : Nat) (hi_ : i_ ≤ 144), 144 - i_ < n_ → G X 0 0 4 [(0, .ref h0), (1, .int (nI (smN g i_))), (2, .int (nI i_))] [] [(h0, .inr (5, [.ref h1, .ref h2, .ref h3, .int (nI nc), .ref h4, .ref h5, .int la, .int st, .int sw, .int fl, .int sk, .int mu])), (h1, .inl ((TY D)[0].1, 144, .inl (nf g)))] := by
    intro n_
    induction n_ with
    | zero => intro i_ hi_ hm_; exact absurd hm_ (Nat.not_lt_zero _)
    | succ n_ ih_ =>
      intro i_ hi_ hm_
      refine g_iload_n O dX5_allGrains_4 2 rfl rfl ?_
      refine g_sipush (x := (nI 144)) O dX5_allGrains_5 (by decide +kernel) ?_
      refine g_icmp_geN (tgt := 26) O (by omega) (by omega) dX5_allGrains_8 (by decide) (fun c_1 => ?_) (fun c_1 => ?_)
      ·
        obtain rfl : i_ = 144 := by omega
        refine g_iload_n O dX5_allGrains_26 1 rfl rfl ?_
        exact E 27 _ (nI (smN g 144)) _ dX5_allGrains_27 ⟨rfl, rfl⟩
      ·
        refine g_iload_n O dX5_allGrains_11 1 rfl rfl ?_
        refine g_aload_n O dX5_allGrains_12 0 rfl rfl ?_
        refine g_get O hiX5_allGrains_X5 0 rfl rfl 0 (by decide) (by decide +kernel) rfl dX5_allGrains_13 ?_
        refine g_iload_n O dX5_allGrains_16 2 rfl rfl ?_
        refine g_ialdN O 1 rfl (by omega) (by omega) dX5_allGrains_17 ?_
        refine g_iaddN O dX5_allGrains_18 ?_
        refine g_istore_n (L' := [(0, .ref h0), (1, .int (nI ((smN g i_) + (g i_)))), (2, .int (nI i_))]) O dX5_allGrains_19 rfl (by decide) [1, 0, 2] rfl ?_
        refine g_iincN (L' := [(0, .ref h0), (1, .int (nI ((smN g i_) + (g i_)))), (2, .int (nI (i_ + 1)))]) O dX5_allGrains_20 2 rfl (by decide) [1, 2, 0] rfl ?_
        refine g_goto (tgt := 4) O dX5_allGrains_23 (by decide) ?_
        exact ih_ (i_ + 1) (by first | assumption | omega | rfl) (by omega)
  exact J4 _ 0 (Nat.zero_le _) (Nat.lt_succ_self _)

theorem hiX5_mostGrains_X5 : ∀ w ∈ wsX50, w ∈ wsX5_mostGrains := by decide +kernel
set_option maxHeartbeats 4000000 in
set_option maxRecDepth 100000 in
/-- the most grains on a place -/
theorem kX5_mostGrains (l : Launch) (D : va_G) (z : Nat × Nat × Nat) (h0 : Nat) (h1 : Nat) (h2 : Nat) (h3 : Nat) (h4 : Nat) (h5 : Nat) (nc : Nat) (la : Int32) (st : Int32) (sw : Int32) (fl : Int32) (sk : Int32) (mu : Int32) (g : Nat → Nat) (hg : ∀ j, j < 144 → g j < 1073741824) : CM l yX5_mostGrains wsX5_mostGrains ({ frames := 1, cells := 0, slots := 0, locals := 21 } : Room) D z [.ref h0] [(h0, .inr (5, [.ref h1, .ref h2, .ref h3, .int (nI nc), .ref h4, .ref h5, .int la, .int st, .int sw, .int fl, .int sk, .int mu])), (h1, .inl ((TY D)[0].1, 144, .inl (nf g)))] (fun r w => r = some (.int (nI (mxN g 144))) ∧ w = [(h0, .inr (5, [.ref h1, .ref h2, .ref h3, .int (nI nc), .ref h4, .ref h5, .int la, .int st, .int sw, .int fl, .int sk, .int mu])), (h1, .inl ((TY D)[0].1, 144, .inl (nf g)))]) 0 0 := by
  refine CM_int (own := RX5) (cc := cX5_mostGrains) (maxL := 3) (L0 := [(0, .ref h0)]) (by decide) rfl rfl (Nat.le_of_ble_eq_true rfl) rfl (fun X O E => ?_)
  refine g_iconst (x := (nI 0)) O dX5_mostGrains_0 (by decide +kernel) ?_
  refine g_istore_n (L' := [(0, .ref h0), (1, .int (nI 0))]) O dX5_mostGrains_1 rfl (by decide) [1, 0] rfl ?_
  refine g_iconst (x := (nI 0)) O dX5_mostGrains_2 (by decide +kernel) ?_
  refine g_istore_n (L' := [(0, .ref h0), (1, .int (nI 0)), (2, .int (nI 0))]) O dX5_mostGrains_3 rfl (by decide) [1, 2, 0] rfl ?_
  have J4 : ∀ (n_ : Nat), ∀ (i_ : Nat) (hi_ : i_ ≤ 144), 144 - i_ < n_ → G X 0 0 4 [(0, .ref h0), (1, .int (nI (mxN g i_))), (2, .int (nI i_))] [] [(h0, .inr (5, [.ref h1, .ref h2, .ref h3, .int (nI nc), .ref h4, .ref h5, .int la, .int st, .int sw, .int fl, .int sk, .int mu])), (h1, .inl ((TY D)[0].1, 144, .inl (nf g)))] := by
    intro n_
    induction n_ with
    | zero => intro i_ hi_ hm_; exact absurd hm_ (Nat.not_lt_zero _)
    | succ n_ ih_ =>
      intro i_ hi_ hm_
      refine g_iload_n O dX5_mostGrains_4 2 rfl rfl ?_
      refine g_sipush (x := (nI 144)) O dX5_mostGrains_5 (by decide +kernel) ?_
      refine g_icmp_geN (tgt := 28) O (by omega) (by omega) dX5_mostGrains_8 (by decide) (fun c_1 => ?_) (fun c_1 => ?_)
      ·
        obtain rfl : i_ = 144 := by omega
        refine g_iload_n O dX5_mostGrains_28 1 rfl rfl ?_
        exact E 29 _ (nI (mxN g 144)) _ dX5_mostGrains_29 ⟨rfl, rfl⟩
      ·
        have hgi := hg i_ c_1
        have hmx := mxN_lt (g := g) (b := 1073741824) (n := i_) (by omega) (fun j hj => hg j (by omega))
        refine g_iload_n O dX5_mostGrains_11 1 rfl rfl ?_
        refine g_aload_n O dX5_mostGrains_12 0 rfl rfl ?_
        refine g_get O hiX5_mostGrains_X5 0 rfl rfl 0 (by decide) (by decide +kernel) rfl dX5_mostGrains_13 ?_
        refine g_iload_n O dX5_mostGrains_16 2 rfl rfl ?_
        refine g_ialdN O 1 rfl (by omega) (by omega) dX5_mostGrains_17 ?_
        refine g_max O (by decide +kernel) (by decide +kernel) (by decide +kernel) (by decide +kernel) (by decide) (Nat.le_of_ble_eq_true rfl) (by decide) dX5_mostGrains_18 ?_
        refine g_eq (st' := [.int (nI (max (mxN g i_) (g i_)))]) (by show ([.int (if (nI (mxN g i_)) < (nI (g i_)) then (nI (g i_)) else (nI (mxN g i_)))] : List Value) = _; rw [nI_max (by omega) (by omega)]) rfl rfl ?_
        refine g_istore_n (L' := [(0, .ref h0), (1, .int (nI (max (mxN g i_) (g i_)))), (2, .int (nI i_))]) O dX5_mostGrains_21 rfl (by decide) [1, 0, 2] rfl ?_
        refine g_iincN (L' := [(0, .ref h0), (1, .int (nI (max (mxN g i_) (g i_)))), (2, .int (nI (i_ + 1)))]) O dX5_mostGrains_22 2 rfl (by decide) [1, 2, 0] rfl ?_
        refine g_goto (tgt := 4) O dX5_mostGrains_25 (by decide) ?_
        exact ih_ (i_ + 1) (by first | assumption | omega | rfl) (by omega)
  exact J4 _ 0 (Nat.zero_le _) (Nat.lt_succ_self _)

theorem hiX5_clampOn_X5 : ∀ w ∈ wsX50, w ∈ wsX5_clampOn := by decide +kernel
set_option maxHeartbeats 4000000 in
set_option maxRecDepth 100000 in
/-- the clamp at a place -/
theorem kX5_clampOn (l : Launch) (D : va_G) (z : Nat × Nat × Nat) (h0 : Nat) (h1 : Nat) (h2 : Nat) (h3 : Nat) (h4 : Nat) (h5 : Nat) (nc : Nat) (la : Int32) (st : Int32) (sw : Int32) (fl : Int32) (sk : Int32) (mu : Int32) (cc : Nat → Nat) (cr : Nat → Nat) (x : Nat) (y : Nat) (hnc : nc ≤ 4) (hcc : ∀ j, j < nc → cc j < 12 ∧ cr j < 12) (hx : x < 12) (hy : y < 12) : CM l yX5_clampOn wsX5_clampOn ({ frames := 0, cells := 0, slots := 0, locals := 0 } : Room) D z [.ref h0, .int (nI x), .int (nI y)] [(h0, .inr (5, [.ref h1, .ref h2, .ref h3, .int (nI nc), .ref h4, .ref h5, .int la, .int st, .int sw, .int fl, .int sk, .int mu])), (h2, .inl ((TY D)[0].1, 4, .inl (nf cc))), (h3, .inl ((TY D)[0].1, 4, .inl (nf cr)))] (fun r w => r = some (.int (orM (fdB (fun j => cc j == x && cr j == y) nc))) ∧ w = [(h0, .inr (5, [.ref h1, .ref h2, .ref h3, .int (nI nc), .ref h4, .ref h5, .int la, .int st, .int sw, .int fl, .int sk, .int mu])), (h2, .inl ((TY D)[0].1, 4, .inl (nf cc))), (h3, .inl ((TY D)[0].1, 4, .inl (nf cr)))]) 0 0 := by
  refine CM_int (own := RX5) (cc := cX5_clampOn) (maxL := 4) (L0 := [(0, .ref h0), (1, .int (nI x)), (2, .int (nI y))]) (by decide) rfl rfl (Nat.le_of_ble_eq_true rfl) rfl (fun X O E => ?_)
  refine g_iconst (x := (nI 0)) O dX5_clampOn_0 (by decide +kernel) ?_
  refine g_istore_n (L' := [(0, .ref h0), (1, .int (nI x)), (2, .int (nI y)), (3, .int (nI 0))]) O dX5_clampOn_1 rfl (by decide) [1, 2, 3, 0] rfl ?_
  have J2 : ∀ (n_ : Nat), ∀ (i_ : Nat) (hi_ : i_ ≤ nc) (hno : ∀ j, j < i_ → (fun j => cc j == x && cr j == y) j = false), nc - i_ < n_ → G X 0 0 2 [(0, .ref h0), (1, .int (nI x)), (2, .int (nI y)), (3, .int (nI i_))] [] [(h0, .inr (5, [.ref h1, .ref h2, .ref h3, .int (nI nc), .ref h4, .ref h5, .int la, .int st, .int sw, .int fl, .int sk, .int mu])), (h2, .inl ((TY D)[0].1, 4, .inl (nf cc))), (h3, .inl ((TY D)[0].1, 4, .inl (nf cr)))] := by
    intro n_
    induction n_ with
    | zero => intro i_ hi_ hno hm_; exact absurd hm_ (Nat.not_lt_zero _)
    | succ n_ ih_ =>
      intro i_ hi_ hno hm_
      refine g_iload_n O dX5_clampOn_2 3 rfl rfl ?_
      refine g_aload_n O dX5_clampOn_3 0 rfl rfl ?_
      refine g_get O hiX5_clampOn_X5 0 rfl rfl 3 (by decide) (by decide +kernel) rfl dX5_clampOn_4 ?_
      refine g_icmp_geN (tgt := 38) O (by omega) (by omega) dX5_clampOn_7 (by decide) (fun c_1 => ?_) (fun c_1 => ?_)
      ·
        obtain rfl : nc = i_ := by omega
        refine g_iconst (x := (-1)) O dX5_clampOn_38 (by decide +kernel) ?_
        exact E 39 _ (-1) _ dX5_clampOn_39 (by rw [fdB_none.mpr hno]; exact ⟨rfl, rfl⟩)
      ·
        have hci := hcc i_ c_1
        refine g_aload_n O dX5_clampOn_10 0 rfl rfl ?_
        refine g_get O hiX5_clampOn_X5 0 rfl rfl 1 (by decide) (by decide +kernel) rfl dX5_clampOn_11 ?_
        refine g_iload_n O dX5_clampOn_14 3 rfl rfl ?_
        refine g_ialdN O 1 rfl (by omega) (by omega) dX5_clampOn_15 ?_
        refine g_iload_n O dX5_clampOn_16 1 rfl rfl ?_
        refine g_icmp_neN (tgt := 32) O (by omega) (by omega) dX5_clampOn_17 (by decide) (fun c_2 => ?_) (fun c_2 => ?_)
        ·
          refine g_iincN (L' := [(0, .ref h0), (1, .int (nI x)), (2, .int (nI y)), (3, .int (nI (i_ + 1)))]) O dX5_clampOn_32 3 rfl (by decide) [1, 2, 3, 0] rfl ?_
          refine g_goto (tgt := 2) O dX5_clampOn_35 (by decide) ?_
          exact ih_ (i_ + 1) (by first | assumption | omega | rfl) (fun j hj => by rcases Nat.lt_succ_iff_lt_or_eq.mp hj with h | h; exact hno j h; subst h; simp_all) (by omega)
        ·
          refine g_aload_n O dX5_clampOn_20 0 rfl rfl ?_
          refine g_get O hiX5_clampOn_X5 0 rfl rfl 2 (by decide) (by decide +kernel) rfl dX5_clampOn_21 ?_
          refine g_iload_n O dX5_clampOn_24 3 rfl rfl ?_
          refine g_ialdN O 2 rfl (by omega) (by omega) dX5_clampOn_25 ?_
          refine g_iload_n O dX5_clampOn_26 2 rfl rfl ?_
          refine g_icmp_neN (tgt := 32) O (by omega) (by omega) dX5_clampOn_27 (by decide) (fun c_3 => ?_) (fun c_3 => ?_)
          ·
            refine g_iincN (L' := [(0, .ref h0), (1, .int (nI x)), (2, .int (nI y)), (3, .int (nI (i_ + 1)))]) O dX5_clampOn_32 3 rfl (by decide) [1, 2, 3, 0] rfl ?_
            refine g_goto (tgt := 2) O dX5_clampOn_35 (by decide) ?_
            exact ih_ (i_ + 1) (by first | assumption | omega | rfl) (fun j hj => by rcases Nat.lt_succ_iff_lt_or_eq.mp hj with h | h; exact hno j h; subst h; simp_all) (by omega)
          ·
            refine g_iload_n O dX5_clampOn_30 3 rfl rfl ?_
            exact E 31 _ (nI i_) _ dX5_clampOn_31 (by rw [fdB_some.mpr ⟨by omega, by simp_all, hno⟩]; exact ⟨rfl, rfl⟩)
  exact J2 _ 0 (Nat.zero_le _) (fun j hj => absurd hj (Nat.not_lt_zero _)) (Nat.lt_succ_self _)

theorem hiX5_dropClamp_X5 : ∀ w ∈ wsX50, w ∈ wsX5_dropClamp := by decide +kernel
set_option maxHeartbeats 4000000 in
set_option maxRecDepth 100000 in
/-- a clamp goes -/
theorem kX5_dropClamp (l : Launch) (D : va_G) (z : Nat × Nat × Nat) (h0 : Nat) (h1 : Nat) (h2 : Nat) (h3 : Nat) (h4 : Nat) (h5 : Nat) (nc : Nat) (la : Int32) (st : Int32) (sw : Int32) (fl : Int32) (sk : Int32) (mu : Int32) (cc : Nat → Nat) (cr : Nat → Nat) (d : Nat) (hnc : nc ≤ 4) (hd : d < nc) : CM l yX5_dropClamp wsX5_dropClamp ({ frames := 0, cells := 0, slots := 0, locals := 0 } : Room) D z [.ref h0, .int (nI d)] [(h0, .inr (5, [.ref h1, .ref h2, .ref h3, .int (nI nc), .ref h4, .ref h5, .int la, .int st, .int sw, .int fl, .int sk, .int mu])), (h2, .inl ((TY D)[0].1, 4, .inl (nf cc))), (h3, .inl ((TY D)[0].1, 4, .inl (nf cr)))] (fun r w => r = none ∧ w = [(h0, .inr (5, [.ref h1, .ref h2, .ref h3, .int (nI (nc - 1)), .ref h4, .ref h5, .int la, .int st, .int sw, .int fl, .int sk, .int mu])), (h2, .inl ((TY D)[0].1, 4, .inl (nf (drf cc d (nc - 1 - d))))), (h3, .inl ((TY D)[0].1, 4, .inl (nf (drf cr d (nc - 1 - d)))))]) 0 0 := by
  refine CM_void (own := RX5) (cc := cX5_dropClamp) (maxL := 3) (L0 := [(0, .ref h0), (1, .int (nI d))]) (by decide) rfl rfl (Nat.le_of_ble_eq_true rfl) rfl (fun X O E => ?_)
  refine g_iload_n O dX5_dropClamp_0 1 rfl rfl ?_
  refine g_if_ltN (tgt := 12) O (by omega) dX5_dropClamp_1 (by decide) ?_
  refine g_iload_n O dX5_dropClamp_4 1 rfl rfl ?_
  refine g_aload_n O dX5_dropClamp_5 0 rfl rfl ?_
  refine g_get O hiX5_dropClamp_X5 0 rfl rfl 3 (by decide) (by decide +kernel) rfl dX5_dropClamp_6 ?_
  refine g_icmp_ltN (tgt := 13) O (by omega) (by omega) dX5_dropClamp_9 (by decide) (fun c_2 => ?_) (fun c_2 => (by exfalso; omega))
  refine g_iload_n O dX5_dropClamp_13 1 rfl rfl ?_
  refine g_istore_n (L' := [(0, .ref h0), (1, .int (nI d)), (2, .int (nI d))]) O dX5_dropClamp_14 rfl (by decide) [1, 2, 0] rfl ?_
  have J15 : ∀ (n_ : Nat), ∀ (i_ : Nat) (hi_ : d + i_ ≤ nc - 1), nc - i_ < n_ → G X 0 0 15 [(0, .ref h0), (1, .int (nI d)), (2, .int (nI (d + i_)))] [] [(h0, .inr (5, [.ref h1, .ref h2, .ref h3, .int (nI nc), .ref h4, .ref h5, .int la, .int st, .int sw, .int fl, .int sk, .int mu])), (h2, .inl ((TY D)[0].1, 4, .inl (nf (drf cc d i_)))), (h3, .inl ((TY D)[0].1, 4, .inl (nf (drf cr d i_))))] := by
    intro n_
    induction n_ with
    | zero => intro i_ hi_ hm_; exact absurd hm_ (Nat.not_lt_zero _)
    | succ n_ ih_ =>
      intro i_ hi_ hm_
      refine g_iload_n O dX5_dropClamp_15 2 rfl rfl ?_
      refine g_aload_n O dX5_dropClamp_16 0 rfl rfl ?_
      refine g_get O hiX5_dropClamp_X5 0 rfl rfl 3 (by decide) (by decide +kernel) rfl dX5_dropClamp_17 ?_
      refine g_iconst (x := (nI 1)) O dX5_dropClamp_20 (by decide +kernel) ?_
      refine g_isubN O (by omega) dX5_dropClamp_21 ?_
      refine g_icmp_geN (tgt := 59) O (by omega) (by omega) dX5_dropClamp_22 (by decide) (fun c_3 => ?_) (fun c_3 => ?_)
      ·
        obtain rfl : i_ = nc - 1 - d := by omega
        refine g_aload_n O dX5_dropClamp_59 0 rfl rfl ?_
        refine g_dup O dX5_dropClamp_60 rfl ?_
        refine g_get O hiX5_dropClamp_X5 0 rfl rfl 3 (by decide) (by decide +kernel) rfl dX5_dropClamp_61 ?_
        refine g_iconst (x := (nI 1)) O dX5_dropClamp_64 (by decide +kernel) ?_
        refine g_isubN O (by omega) dX5_dropClamp_65 ?_
        refine g_put (ws' := [(h0, .inr (5, [.ref h1, .ref h2, .ref h3, .int (nI (nc - 1)), .ref h4, .ref h5, .int la, .int st, .int sw, .int fl, .int sk, .int mu])), (h2, .inl ((TY D)[0].1, 4, .inl (nf (drf cc d (nc - 1 - d))))), (h3, .inl ((TY D)[0].1, 4, .inl (nf (drf cr d (nc - 1 - d)))))]) O hiX5_dropClamp_X5 tyX5 tyX5_ok nmX5 0 rfl rfl 3 (by decide) (by decide +kernel) rfl (tyX5_ok 3 (by decide)) rfl rfl (Nat.le_of_ble_eq_true rfl) dX5_dropClamp_66 rfl ?_
        exact E 69 _ _ dX5_dropClamp_69 ⟨rfl, rfl⟩
      ·
        refine g_aload_n O dX5_dropClamp_25 0 rfl rfl ?_
        refine g_get O hiX5_dropClamp_X5 0 rfl rfl 1 (by decide) (by decide +kernel) rfl dX5_dropClamp_26 ?_
        refine g_iload_n O dX5_dropClamp_29 2 rfl rfl ?_
        refine g_aload_n O dX5_dropClamp_30 0 rfl rfl ?_
        refine g_get O hiX5_dropClamp_X5 0 rfl rfl 1 (by decide) (by decide +kernel) rfl dX5_dropClamp_31 ?_
        refine g_iload_n O dX5_dropClamp_34 2 rfl rfl ?_
        refine g_iconst (x := (nI 1)) O dX5_dropClamp_35 (by decide +kernel) ?_
        refine g_iaddN O dX5_dropClamp_36 ?_
        refine g_ialdN O 1 rfl (by omega) (by omega) dX5_dropClamp_37 ?_
        refine g_iastN (f' := (nf (upf (drf cc d i_) (d + i_) ((drf cc d i_) ((d + i_) + 1))))) (ws' := [(h0, .inr (5, [.ref h1, .ref h2, .ref h3, .int (nI nc), .ref h4, .ref h5, .int la, .int st, .int sw, .int fl, .int sk, .int mu])), (h2, .inl ((TY D)[0].1, 4, .inl (nf (upf (drf cc d i_) (d + i_) ((drf cc d i_) ((d + i_) + 1)))))), (h3, .inl ((TY D)[0].1, 4, .inl (nf (drf cr d i_))))]) O 1 rfl (by omega) (by omega) dX5_dropClamp_38 (nf_upd _ _ _) rfl ?_
        refine g_aload_n O dX5_dropClamp_39 0 rfl rfl ?_
        refine g_get O hiX5_dropClamp_X5 0 rfl rfl 2 (by decide) (by decide +kernel) rfl dX5_dropClamp_40 ?_
        refine g_iload_n O dX5_dropClamp_43 2 rfl rfl ?_
        refine g_aload_n O dX5_dropClamp_44 0 rfl rfl ?_
        refine g_get O hiX5_dropClamp_X5 0 rfl rfl 2 (by decide) (by decide +kernel) rfl dX5_dropClamp_45 ?_
        refine g_iload_n O dX5_dropClamp_48 2 rfl rfl ?_
        refine g_iconst (x := (nI 1)) O dX5_dropClamp_49 (by decide +kernel) ?_
        refine g_iaddN O dX5_dropClamp_50 ?_
        refine g_ialdN O 2 rfl (by omega) (by omega) dX5_dropClamp_51 ?_
        refine g_iastN (f' := (nf (upf (drf cr d i_) (d + i_) ((drf cr d i_) ((d + i_) + 1))))) (ws' := [(h0, .inr (5, [.ref h1, .ref h2, .ref h3, .int (nI nc), .ref h4, .ref h5, .int la, .int st, .int sw, .int fl, .int sk, .int mu])), (h2, .inl ((TY D)[0].1, 4, .inl (nf (upf (drf cc d i_) (d + i_) ((drf cc d i_) ((d + i_) + 1)))))), (h3, .inl ((TY D)[0].1, 4, .inl (nf (upf (drf cr d i_) (d + i_) ((drf cr d i_) ((d + i_) + 1))))))]) O 2 rfl (by omega) (by omega) dX5_dropClamp_52 (nf_upd _ _ _) rfl ?_
        refine g_iincN (L' := [(0, .ref h0), (1, .int (nI d)), (2, .int (nI (d + i_ + 1)))]) O dX5_dropClamp_53 2 rfl (by decide) [1, 2, 0] rfl ?_
        refine g_goto (tgt := 15) O dX5_dropClamp_56 (by decide) ?_
        exact ih_ (i_ + 1) (by first | assumption | omega | rfl) (by omega)
  exact J15 _ 0 (by omega) (Nat.lt_succ_self _)

theorem hiX5_copyFrom_X5 : ∀ w ∈ wsX50, w ∈ wsX5_copyFrom := by decide +kernel
set_option maxHeartbeats 4000000 in
set_option maxRecDepth 100000 in
/-- a state like another -/
theorem kX5_copyFrom (l : Launch) (D : va_G) (z : Nat × Nat × Nat) (h0 : Nat) (h1 : Nat) (h2 : Nat) (h3 : Nat) (h4 : Nat) (h5 : Nat) (h6 : Nat) (h7 : Nat) (h8 : Nat) (o0 : Nat) (o1 : Nat) (o2 : Nat) (o3 : Nat) (o4 : Nat) (o5 : Nat) (o6 : Nat) (o7 : Nat) (o8 : Nat) (s : SV) (o : SV) (hps : sv_ps o ≤ 16) : CM l yX5_copyFrom wsX5_copyFrom ({ frames := 3, cells := 0, slots := 0, locals := 66 } : Room) D z [.ref h0, .ref o0] [(h0, .inr (5, [.ref h1, .ref h2, .ref h3, .int (nI (sv_nc s)), .ref h4, .ref h5, .int (sv_la s), .int (sv_st s), .int (sv_sw s), .int (sv_fl s), .int (sv_sk s), .int (sv_mu s)])), (h1, .inl ((TY D)[0].1, 144, .inl (nf (sv_g s)))), (h2, .inl ((TY D)[0].1, 4, .inl (nf (sv_cc s)))), (h3, .inl ((TY D)[0].1, 4, .inl (nf (sv_cr s)))), (h4, .inl ((TY D)[0].1, 4, .inl (sv_se s))), (h5, .inr (4, [.int (nI 16), .ref h6, .ref h7, .ref h8, .int (nI (sv_ps s))])), (h6, .inl ((TY D)[0].1, 16, .inl (nf (sv_fs s)))), (h7, .inl ((TY D)[0].1, 16, .inl (nf (sv_fa s)))), (h8, .inl ((TY D)[0].1, 16, .inl (nf (sv_fk s)))), (o0, .inr (5, [.ref o1, .ref o2, .ref o3, .int (nI (sv_nc o)), .ref o4, .ref o5, .int (sv_la o), .int (sv_st o), .int (sv_sw o), .int (sv_fl o), .int (sv_sk o), .int (sv_mu o)])), (o1, .inl ((TY D)[0].1, 144, .inl (nf (sv_g o)))), (o2, .inl ((TY D)[0].1, 4, .inl (nf (sv_cc o)))), (o3, .inl ((TY D)[0].1, 4, .inl (nf (sv_cr o)))), (o4, .inl ((TY D)[0].1, 4, .inl (sv_se o))), (o5, .inr (4, [.int (nI 16), .ref o6, .ref o7, .ref o8, .int (nI (sv_ps o))])), (o6, .inl ((TY D)[0].1, 16, .inl (nf (sv_fs o)))), (o7, .inl ((TY D)[0].1, 16, .inl (nf (sv_fa o)))), (o8, .inl ((TY D)[0].1, 16, .inl (nf (sv_fk o))))] (fun r w => r = none ∧ w = [(h0, .inr (5, [.ref h1, .ref h2, .ref h3, .int (nI (sv_nc (cpS s o))), .ref h4, .ref h5, .int (sv_la (cpS s o)), .int (sv_st (cpS s o)), .int (sv_sw (cpS s o)), .int (sv_fl (cpS s o)), .int (sv_sk (cpS s o)), .int (sv_mu (cpS s o))])), (h1, .inl ((TY D)[0].1, 144, .inl (nf (sv_g (cpS s o))))), (h2, .inl ((TY D)[0].1, 4, .inl (nf (sv_cc (cpS s o))))), (h3, .inl ((TY D)[0].1, 4, .inl (nf (sv_cr (cpS s o))))), (h4, .inl ((TY D)[0].1, 4, .inl (sv_se (cpS s o)))), (h5, .inr (4, [.int (nI 16), .ref h6, .ref h7, .ref h8, .int (nI (sv_ps (cpS s o)))])), (h6, .inl ((TY D)[0].1, 16, .inl (nf (sv_fs (cpS s o))))), (h7, .inl ((TY D)[0].1, 16, .inl (nf (sv_fa (cpS s o))))), (h8, .inl ((TY D)[0].1, 16, .inl (nf (sv_fk (cpS s o))))), (o0, .inr (5, [.ref o1, .ref o2, .ref o3, .int (nI (sv_nc o)), .ref o4, .ref o5, .int (sv_la o), .int (sv_st o), .int (sv_sw o), .int (sv_fl o), .int (sv_sk o), .int (sv_mu o)])), (o1, .inl ((TY D)[0].1, 144, .inl (nf (sv_g o)))), (o2, .inl ((TY D)[0].1, 4, .inl (nf (sv_cc o)))), (o3, .inl ((TY D)[0].1, 4, .inl (nf (sv_cr o)))), (o4, .inl ((TY D)[0].1, 4, .inl (sv_se o))), (o5, .inr (4, [.int (nI 16), .ref o6, .ref o7, .ref o8, .int (nI (sv_ps o))])), (o6, .inl ((TY D)[0].1, 16, .inl (nf (sv_fs o)))), (o7, .inl ((TY D)[0].1, 16, .inl (nf (sv_fa o)))), (o8, .inl ((TY D)[0].1, 16, .inl (nf (sv_fk o))))]) 0 0 := by
  refine CM_void (own := RX5) (cc := cX5_copyFrom) (maxL := 2) (L0 := [(0, .ref h0), (1, .ref o0)]) (by decide) rfl rfl (Nat.le_of_ble_eq_true rfl) rfl (fun X O E => ?_)
  refine g_aload_n O dX5_copyFrom_0 1 rfl rfl ?_
  refine g_get O hiX5_copyFrom_X5 9 rfl rfl 0 (by decide) (by decide +kernel) rfl dX5_copyFrom_1 ?_
  refine g_iconst (x := (nI 0)) O dX5_copyFrom_4 (by decide +kernel) ?_
  refine g_aload_n O dX5_copyFrom_5 0 rfl rfl ?_
  refine g_get O hiX5_copyFrom_X5 0 rfl rfl 0 (by decide) (by decide +kernel) rfl dX5_copyFrom_6 ?_
  refine g_iconst (x := (nI 0)) O dX5_copyFrom_9 (by decide +kernel) ?_
  refine g_sipush (x := (nI 144)) O dX5_copyFrom_10 (by decide +kernel) ?_
  refine g_copyI (f' := (nf (va_cpy (sv_g o) (sv_g s) 0 0 144))) (ws' := [(h0, .inr (5, [.ref h1, .ref h2, .ref h3, .int (nI (sv_nc s)), .ref h4, .ref h5, .int (sv_la s), .int (sv_st s), .int (sv_sw s), .int (sv_fl s), .int (sv_sk s), .int (sv_mu s)])), (h1, .inl ((TY D)[0].1, 144, .inl (nf (va_cpy (sv_g o) (sv_g s) 0 0 144)))), (h2, .inl ((TY D)[0].1, 4, .inl (nf (sv_cc s)))), (h3, .inl ((TY D)[0].1, 4, .inl (nf (sv_cr s)))), (h4, .inl ((TY D)[0].1, 4, .inl (sv_se s))), (h5, .inr (4, [.int (nI 16), .ref h6, .ref h7, .ref h8, .int (nI (sv_ps s))])), (h6, .inl ((TY D)[0].1, 16, .inl (nf (sv_fs s)))), (h7, .inl ((TY D)[0].1, 16, .inl (nf (sv_fa s)))), (h8, .inl ((TY D)[0].1, 16, .inl (nf (sv_fk s)))), (o0, .inr (5, [.ref o1, .ref o2, .ref o3, .int (nI (sv_nc o)), .ref o4, .ref o5, .int (sv_la o), .int (sv_st o), .int (sv_sw o), .int (sv_fl o), .int (sv_sk o), .int (sv_mu o)])), (o1, .inl ((TY D)[0].1, 144, .inl (nf (sv_g o)))), (o2, .inl ((TY D)[0].1, 4, .inl (nf (sv_cc o)))), (o3, .inl ((TY D)[0].1, 4, .inl (nf (sv_cr o)))), (o4, .inl ((TY D)[0].1, 4, .inl (sv_se o))), (o5, .inr (4, [.int (nI 16), .ref o6, .ref o7, .ref o8, .int (nI (sv_ps o))])), (o6, .inl ((TY D)[0].1, 16, .inl (nf (sv_fs o)))), (o7, .inl ((TY D)[0].1, 16, .inl (nf (sv_fa o)))), (o8, .inl ((TY D)[0].1, 16, .inl (nf (sv_fk o))))]) O 10 1 rfl rfl (by decide +kernel) (by decide +kernel) (by decide +kernel) (by decide +kernel) (by decide +kernel) (by decide +kernel) (by decide +kernel) (by decide +kernel) (by decide +kernel) (by decide) (Nat.le_of_ble_eq_true rfl) dX5_copyFrom_13 (nf_cpy (by decide) (by decide) (by decide)) rfl ?_
  refine g_aload_n O dX5_copyFrom_16 1 rfl rfl ?_
  refine g_get O hiX5_copyFrom_X5 9 rfl rfl 1 (by decide) (by decide +kernel) rfl dX5_copyFrom_17 ?_
  refine g_iconst (x := (nI 0)) O dX5_copyFrom_20 (by decide +kernel) ?_
  refine g_aload_n O dX5_copyFrom_21 0 rfl rfl ?_
  refine g_get O hiX5_copyFrom_X5 0 rfl rfl 1 (by decide) (by decide +kernel) rfl dX5_copyFrom_22 ?_
  refine g_iconst (x := (nI 0)) O dX5_copyFrom_25 (by decide +kernel) ?_
  refine g_iconst (x := (nI 4)) O dX5_copyFrom_26 (by decide +kernel) ?_
  refine g_copyI (f' := (nf (va_cpy (sv_cc o) (sv_cc s) 0 0 4))) (ws' := [(h0, .inr (5, [.ref h1, .ref h2, .ref h3, .int (nI (sv_nc s)), .ref h4, .ref h5, .int (sv_la s), .int (sv_st s), .int (sv_sw s), .int (sv_fl s), .int (sv_sk s), .int (sv_mu s)])), (h1, .inl ((TY D)[0].1, 144, .inl (nf (va_cpy (sv_g o) (sv_g s) 0 0 144)))), (h2, .inl ((TY D)[0].1, 4, .inl (nf (va_cpy (sv_cc o) (sv_cc s) 0 0 4)))), (h3, .inl ((TY D)[0].1, 4, .inl (nf (sv_cr s)))), (h4, .inl ((TY D)[0].1, 4, .inl (sv_se s))), (h5, .inr (4, [.int (nI 16), .ref h6, .ref h7, .ref h8, .int (nI (sv_ps s))])), (h6, .inl ((TY D)[0].1, 16, .inl (nf (sv_fs s)))), (h7, .inl ((TY D)[0].1, 16, .inl (nf (sv_fa s)))), (h8, .inl ((TY D)[0].1, 16, .inl (nf (sv_fk s)))), (o0, .inr (5, [.ref o1, .ref o2, .ref o3, .int (nI (sv_nc o)), .ref o4, .ref o5, .int (sv_la o), .int (sv_st o), .int (sv_sw o), .int (sv_fl o), .int (sv_sk o), .int (sv_mu o)])), (o1, .inl ((TY D)[0].1, 144, .inl (nf (sv_g o)))), (o2, .inl ((TY D)[0].1, 4, .inl (nf (sv_cc o)))), (o3, .inl ((TY D)[0].1, 4, .inl (nf (sv_cr o)))), (o4, .inl ((TY D)[0].1, 4, .inl (sv_se o))), (o5, .inr (4, [.int (nI 16), .ref o6, .ref o7, .ref o8, .int (nI (sv_ps o))])), (o6, .inl ((TY D)[0].1, 16, .inl (nf (sv_fs o)))), (o7, .inl ((TY D)[0].1, 16, .inl (nf (sv_fa o)))), (o8, .inl ((TY D)[0].1, 16, .inl (nf (sv_fk o))))]) O 11 2 rfl rfl (by decide +kernel) (by decide +kernel) (by decide +kernel) (by decide +kernel) (by decide +kernel) (by decide +kernel) (by decide +kernel) (by decide +kernel) (by decide +kernel) (by decide) (Nat.le_of_ble_eq_true rfl) dX5_copyFrom_27 (nf_cpy (by decide) (by decide) (by decide)) rfl ?_
  refine g_aload_n O dX5_copyFrom_30 1 rfl rfl ?_
  refine g_get O hiX5_copyFrom_X5 9 rfl rfl 2 (by decide) (by decide +kernel) rfl dX5_copyFrom_31 ?_
  refine g_iconst (x := (nI 0)) O dX5_copyFrom_34 (by decide +kernel) ?_
  refine g_aload_n O dX5_copyFrom_35 0 rfl rfl ?_
  refine g_get O hiX5_copyFrom_X5 0 rfl rfl 2 (by decide) (by decide +kernel) rfl dX5_copyFrom_36 ?_
  refine g_iconst (x := (nI 0)) O dX5_copyFrom_39 (by decide +kernel) ?_
  refine g_iconst (x := (nI 4)) O dX5_copyFrom_40 (by decide +kernel) ?_
  refine g_copyI (f' := (nf (va_cpy (sv_cr o) (sv_cr s) 0 0 4))) (ws' := [(h0, .inr (5, [.ref h1, .ref h2, .ref h3, .int (nI (sv_nc s)), .ref h4, .ref h5, .int (sv_la s), .int (sv_st s), .int (sv_sw s), .int (sv_fl s), .int (sv_sk s), .int (sv_mu s)])), (h1, .inl ((TY D)[0].1, 144, .inl (nf (va_cpy (sv_g o) (sv_g s) 0 0 144)))), (h2, .inl ((TY D)[0].1, 4, .inl (nf (va_cpy (sv_cc o) (sv_cc s) 0 0 4)))), (h3, .inl ((TY D)[0].1, 4, .inl (nf (va_cpy (sv_cr o) (sv_cr s) 0 0 4)))), (h4, .inl ((TY D)[0].1, 4, .inl (sv_se s))), (h5, .inr (4, [.int (nI 16), .ref h6, .ref h7, .ref h8, .int (nI (sv_ps s))])), (h6, .inl ((TY D)[0].1, 16, .inl (nf (sv_fs s)))), (h7, .inl ((TY D)[0].1, 16, .inl (nf (sv_fa s)))), (h8, .inl ((TY D)[0].1, 16, .inl (nf (sv_fk s)))), (o0, .inr (5, [.ref o1, .ref o2, .ref o3, .int (nI (sv_nc o)), .ref o4, .ref o5, .int (sv_la o), .int (sv_st o), .int (sv_sw o), .int (sv_fl o), .int (sv_sk o), .int (sv_mu o)])), (o1, .inl ((TY D)[0].1, 144, .inl (nf (sv_g o)))), (o2, .inl ((TY D)[0].1, 4, .inl (nf (sv_cc o)))), (o3, .inl ((TY D)[0].1, 4, .inl (nf (sv_cr o)))), (o4, .inl ((TY D)[0].1, 4, .inl (sv_se o))), (o5, .inr (4, [.int (nI 16), .ref o6, .ref o7, .ref o8, .int (nI (sv_ps o))])), (o6, .inl ((TY D)[0].1, 16, .inl (nf (sv_fs o)))), (o7, .inl ((TY D)[0].1, 16, .inl (nf (sv_fa o)))), (o8, .inl ((TY D)[0].1, 16, .inl (nf (sv_fk o))))]) O 12 3 rfl rfl (by decide +kernel) (by decide +kernel) (by decide +kernel) (by decide +kernel) (by decide +kernel) (by decide +kernel) (by decide +kernel) (by decide +kernel) (by decide +kernel) (by decide) (Nat.le_of_ble_eq_true rfl) dX5_copyFrom_41 (nf_cpy (by decide) (by decide) (by decide)) rfl ?_
  refine g_aload_n O dX5_copyFrom_44 0 rfl rfl ?_
  refine g_aload_n O dX5_copyFrom_45 1 rfl rfl ?_
  refine g_get O hiX5_copyFrom_X5 9 rfl rfl 3 (by decide) (by decide +kernel) rfl dX5_copyFrom_46 ?_
  refine g_put (ws' := [(h0, .inr (5, [.ref h1, .ref h2, .ref h3, .int (nI (sv_nc o)), .ref h4, .ref h5, .int (sv_la s), .int (sv_st s), .int (sv_sw s), .int (sv_fl s), .int (sv_sk s), .int (sv_mu s)])), (h1, .inl ((TY D)[0].1, 144, .inl (nf (va_cpy (sv_g o) (sv_g s) 0 0 144)))), (h2, .inl ((TY D)[0].1, 4, .inl (nf (va_cpy (sv_cc o) (sv_cc s) 0 0 4)))), (h3, .inl ((TY D)[0].1, 4, .inl (nf (va_cpy (sv_cr o) (sv_cr s) 0 0 4)))), (h4, .inl ((TY D)[0].1, 4, .inl (sv_se s))), (h5, .inr (4, [.int (nI 16), .ref h6, .ref h7, .ref h8, .int (nI (sv_ps s))])), (h6, .inl ((TY D)[0].1, 16, .inl (nf (sv_fs s)))), (h7, .inl ((TY D)[0].1, 16, .inl (nf (sv_fa s)))), (h8, .inl ((TY D)[0].1, 16, .inl (nf (sv_fk s)))), (o0, .inr (5, [.ref o1, .ref o2, .ref o3, .int (nI (sv_nc o)), .ref o4, .ref o5, .int (sv_la o), .int (sv_st o), .int (sv_sw o), .int (sv_fl o), .int (sv_sk o), .int (sv_mu o)])), (o1, .inl ((TY D)[0].1, 144, .inl (nf (sv_g o)))), (o2, .inl ((TY D)[0].1, 4, .inl (nf (sv_cc o)))), (o3, .inl ((TY D)[0].1, 4, .inl (nf (sv_cr o)))), (o4, .inl ((TY D)[0].1, 4, .inl (sv_se o))), (o5, .inr (4, [.int (nI 16), .ref o6, .ref o7, .ref o8, .int (nI (sv_ps o))])), (o6, .inl ((TY D)[0].1, 16, .inl (nf (sv_fs o)))), (o7, .inl ((TY D)[0].1, 16, .inl (nf (sv_fa o)))), (o8, .inl ((TY D)[0].1, 16, .inl (nf (sv_fk o))))]) O hiX5_copyFrom_X5 tyX5 tyX5_ok nmX5 0 rfl rfl 3 (by decide) (by decide +kernel) rfl (tyX5_ok 3 (by decide)) rfl rfl (Nat.le_of_ble_eq_true rfl) dX5_copyFrom_49 rfl ?_
  refine g_aload_n O dX5_copyFrom_52 1 rfl rfl ?_
  refine g_get O hiX5_copyFrom_X5 9 rfl rfl 4 (by decide) (by decide +kernel) rfl dX5_copyFrom_53 ?_
  refine g_iconst (x := (nI 0)) O dX5_copyFrom_56 (by decide +kernel) ?_
  refine g_aload_n O dX5_copyFrom_57 0 rfl rfl ?_
  refine g_get O hiX5_copyFrom_X5 0 rfl rfl 4 (by decide) (by decide +kernel) rfl dX5_copyFrom_58 ?_
  refine g_iconst (x := (nI 0)) O dX5_copyFrom_61 (by decide +kernel) ?_
  refine g_iconst (x := (nI 4)) O dX5_copyFrom_62 (by decide +kernel) ?_
  refine g_copyI (f' := (va_cpy (sv_se o) (sv_se s) 0 0 4)) (ws' := [(h0, .inr (5, [.ref h1, .ref h2, .ref h3, .int (nI (sv_nc o)), .ref h4, .ref h5, .int (sv_la s), .int (sv_st s), .int (sv_sw s), .int (sv_fl s), .int (sv_sk s), .int (sv_mu s)])), (h1, .inl ((TY D)[0].1, 144, .inl (nf (va_cpy (sv_g o) (sv_g s) 0 0 144)))), (h2, .inl ((TY D)[0].1, 4, .inl (nf (va_cpy (sv_cc o) (sv_cc s) 0 0 4)))), (h3, .inl ((TY D)[0].1, 4, .inl (nf (va_cpy (sv_cr o) (sv_cr s) 0 0 4)))), (h4, .inl ((TY D)[0].1, 4, .inl (va_cpy (sv_se o) (sv_se s) 0 0 4))), (h5, .inr (4, [.int (nI 16), .ref h6, .ref h7, .ref h8, .int (nI (sv_ps s))])), (h6, .inl ((TY D)[0].1, 16, .inl (nf (sv_fs s)))), (h7, .inl ((TY D)[0].1, 16, .inl (nf (sv_fa s)))), (h8, .inl ((TY D)[0].1, 16, .inl (nf (sv_fk s)))), (o0, .inr (5, [.ref o1, .ref o2, .ref o3, .int (nI (sv_nc o)), .ref o4, .ref o5, .int (sv_la o), .int (sv_st o), .int (sv_sw o), .int (sv_fl o), .int (sv_sk o), .int (sv_mu o)])), (o1, .inl ((TY D)[0].1, 144, .inl (nf (sv_g o)))), (o2, .inl ((TY D)[0].1, 4, .inl (nf (sv_cc o)))), (o3, .inl ((TY D)[0].1, 4, .inl (nf (sv_cr o)))), (o4, .inl ((TY D)[0].1, 4, .inl (sv_se o))), (o5, .inr (4, [.int (nI 16), .ref o6, .ref o7, .ref o8, .int (nI (sv_ps o))])), (o6, .inl ((TY D)[0].1, 16, .inl (nf (sv_fs o)))), (o7, .inl ((TY D)[0].1, 16, .inl (nf (sv_fa o)))), (o8, .inl ((TY D)[0].1, 16, .inl (nf (sv_fk o))))]) O 13 4 rfl rfl (by decide +kernel) (by decide +kernel) (by decide +kernel) (by decide +kernel) (by decide +kernel) (by decide +kernel) (by decide +kernel) (by decide +kernel) (by decide +kernel) (by decide) (Nat.le_of_ble_eq_true rfl) dX5_copyFrom_63 (cpy_r (by decide) (by decide) (by decide)) rfl ?_
  refine g_aload_n O dX5_copyFrom_66 0 rfl rfl ?_
  refine g_get O hiX5_copyFrom_X5 0 rfl rfl 5 (by decide) (by decide +kernel) rfl dX5_copyFrom_67 ?_
  refine g_aload_n O dX5_copyFrom_70 1 rfl rfl ?_
  refine g_get O hiX5_copyFrom_X5 9 rfl rfl 5 (by decide) (by decide +kernel) rfl dX5_copyFrom_71 ?_
  refine g_callV (As := [.ref o5]) (wr := [(h0, .inr (5, [.ref h1, .ref h2, .ref h3, .int (nI (sv_nc o)), .ref h4, .ref h5, .int (sv_la s), .int (sv_st s), .int (sv_sw s), .int (sv_fl s), .int (sv_sk s), .int (sv_mu s)])), (h1, .inl ((TY D)[0].1, 144, .inl (nf (va_cpy (sv_g o) (sv_g s) 0 0 144)))), (h2, .inl ((TY D)[0].1, 4, .inl (nf (va_cpy (sv_cc o) (sv_cc s) 0 0 4)))), (h3, .inl ((TY D)[0].1, 4, .inl (nf (va_cpy (sv_cr o) (sv_cr s) 0 0 4)))), (h4, .inl ((TY D)[0].1, 4, .inl (va_cpy (sv_se o) (sv_se s) 0 0 4))), (o0, .inr (5, [.ref o1, .ref o2, .ref o3, .int (nI (sv_nc o)), .ref o4, .ref o5, .int (sv_la o), .int (sv_st o), .int (sv_sw o), .int (sv_fl o), .int (sv_sk o), .int (sv_mu o)])), (o1, .inl ((TY D)[0].1, 144, .inl (nf (sv_g o)))), (o2, .inl ((TY D)[0].1, 4, .inl (nf (sv_cc o)))), (o3, .inl ((TY D)[0].1, 4, .inl (nf (sv_cr o)))), (o4, .inl ((TY D)[0].1, 4, .inl (sv_se o)))]) O (kX4_copyFrom l D z h5 h6 h7 h8 o5 o6 o7 o8 16 (sv_ps s) 16 (sv_ps o) (sv_fs s) (sv_fa s) (sv_fk s) (sv_fs o) (sv_fa o) (sv_fk o) (by first | assumption | omega) (by first | assumption | omega) (by first | assumption | omega) (by first | assumption | omega)) gX5_copyFrom_X4_copyFrom rfl rfl rfl 1 (by decide +kernel) (by decide) (by decide) (q0 := 0) rfl rfl rfl [5, 6, 7, 8, 14, 15, 16, 17] [0, 1, 2, 3, 4, 9, 10, 11, 12, 13] rfl (by decide) rfl (by decide) (by decide) rfl rfl (Nat.le_of_ble_eq_true rfl) dX5_copyFrom_74 (fun r_1 w_2 hp => ?_)
  obtain ⟨rfl, rfl⟩ := hp
  refine g_eq (st' := []) (ws' := [(h0, .inr (5, [.ref h1, .ref h2, .ref h3, .int (nI (sv_nc o)), .ref h4, .ref h5, .int (sv_la s), .int (sv_st s), .int (sv_sw s), .int (sv_fl s), .int (sv_sk s), .int (sv_mu s)])), (h1, .inl ((TY D)[0].1, 144, .inl (nf (va_cpy (sv_g o) (sv_g s) 0 0 144)))), (h2, .inl ((TY D)[0].1, 4, .inl (nf (va_cpy (sv_cc o) (sv_cc s) 0 0 4)))), (h3, .inl ((TY D)[0].1, 4, .inl (nf (va_cpy (sv_cr o) (sv_cr s) 0 0 4)))), (h4, .inl ((TY D)[0].1, 4, .inl (va_cpy (sv_se o) (sv_se s) 0 0 4))), (o0, .inr (5, [.ref o1, .ref o2, .ref o3, .int (nI (sv_nc o)), .ref o4, .ref o5, .int (sv_la o), .int (sv_st o), .int (sv_sw o), .int (sv_fl o), .int (sv_sk o), .int (sv_mu o)])), (o1, .inl ((TY D)[0].1, 144, .inl (nf (sv_g o)))), (o2, .inl ((TY D)[0].1, 4, .inl (nf (sv_cc o)))), (o3, .inl ((TY D)[0].1, 4, .inl (nf (sv_cr o)))), (o4, .inl ((TY D)[0].1, 4, .inl (sv_se o))), (h5, .inr (4, [.int (nI 16), .ref h6, .ref h7, .ref h8, .int (nI (sv_ps o))])), (h6, .inl ((TY D)[0].1, 16, .inl (nf (apf (sv_fs s) (sv_fs o) 0 (sv_ps o))))), (h7, .inl ((TY D)[0].1, 16, .inl (nf (apf (sv_fa s) (sv_fa o) 0 (sv_ps o))))), (h8, .inl ((TY D)[0].1, 16, .inl (nf (apf (sv_fk s) (sv_fk o) 0 (sv_ps o))))), (o5, .inr (4, [.int (nI 16), .ref o6, .ref o7, .ref o8, .int (nI (sv_ps o))])), (o6, .inl ((TY D)[0].1, 16, .inl (nf (sv_fs o)))), (o7, .inl ((TY D)[0].1, 16, .inl (nf (sv_fa o)))), (o8, .inl ((TY D)[0].1, 16, .inl (nf (sv_fk o))))]) rfl rfl rfl ?_
  refine g_aload_n O dX5_copyFrom_77 0 rfl rfl ?_
  refine g_aload_n O dX5_copyFrom_78 1 rfl rfl ?_
  refine g_get O hiX5_copyFrom_X5 5 rfl rfl 6 (by decide) (by decide +kernel) rfl dX5_copyFrom_79 ?_
  refine g_put (ws' := [(h0, .inr (5, [.ref h1, .ref h2, .ref h3, .int (nI (sv_nc o)), .ref h4, .ref h5, .int (sv_la o), .int (sv_st s), .int (sv_sw s), .int (sv_fl s), .int (sv_sk s), .int (sv_mu s)])), (h1, .inl ((TY D)[0].1, 144, .inl (nf (va_cpy (sv_g o) (sv_g s) 0 0 144)))), (h2, .inl ((TY D)[0].1, 4, .inl (nf (va_cpy (sv_cc o) (sv_cc s) 0 0 4)))), (h3, .inl ((TY D)[0].1, 4, .inl (nf (va_cpy (sv_cr o) (sv_cr s) 0 0 4)))), (h4, .inl ((TY D)[0].1, 4, .inl (va_cpy (sv_se o) (sv_se s) 0 0 4))), (o0, .inr (5, [.ref o1, .ref o2, .ref o3, .int (nI (sv_nc o)), .ref o4, .ref o5, .int (sv_la o), .int (sv_st o), .int (sv_sw o), .int (sv_fl o), .int (sv_sk o), .int (sv_mu o)])), (o1, .inl ((TY D)[0].1, 144, .inl (nf (sv_g o)))), (o2, .inl ((TY D)[0].1, 4, .inl (nf (sv_cc o)))), (o3, .inl ((TY D)[0].1, 4, .inl (nf (sv_cr o)))), (o4, .inl ((TY D)[0].1, 4, .inl (sv_se o))), (h5, .inr (4, [.int (nI 16), .ref h6, .ref h7, .ref h8, .int (nI (sv_ps o))])), (h6, .inl ((TY D)[0].1, 16, .inl (nf (apf (sv_fs s) (sv_fs o) 0 (sv_ps o))))), (h7, .inl ((TY D)[0].1, 16, .inl (nf (apf (sv_fa s) (sv_fa o) 0 (sv_ps o))))), (h8, .inl ((TY D)[0].1, 16, .inl (nf (apf (sv_fk s) (sv_fk o) 0 (sv_ps o))))), (o5, .inr (4, [.int (nI 16), .ref o6, .ref o7, .ref o8, .int (nI (sv_ps o))])), (o6, .inl ((TY D)[0].1, 16, .inl (nf (sv_fs o)))), (o7, .inl ((TY D)[0].1, 16, .inl (nf (sv_fa o)))), (o8, .inl ((TY D)[0].1, 16, .inl (nf (sv_fk o))))]) O hiX5_copyFrom_X5 tyX5 tyX5_ok nmX5 0 rfl rfl 6 (by decide) (by decide +kernel) rfl (tyX5_ok 6 (by decide)) rfl rfl (Nat.le_of_ble_eq_true rfl) dX5_copyFrom_82 rfl ?_
  refine g_aload_n O dX5_copyFrom_85 0 rfl rfl ?_
  refine g_aload_n O dX5_copyFrom_86 1 rfl rfl ?_
  refine g_get O hiX5_copyFrom_X5 5 rfl rfl 7 (by decide) (by decide +kernel) rfl dX5_copyFrom_87 ?_
  refine g_put (ws' := [(h0, .inr (5, [.ref h1, .ref h2, .ref h3, .int (nI (sv_nc o)), .ref h4, .ref h5, .int (sv_la o), .int (sv_st o), .int (sv_sw s), .int (sv_fl s), .int (sv_sk s), .int (sv_mu s)])), (h1, .inl ((TY D)[0].1, 144, .inl (nf (va_cpy (sv_g o) (sv_g s) 0 0 144)))), (h2, .inl ((TY D)[0].1, 4, .inl (nf (va_cpy (sv_cc o) (sv_cc s) 0 0 4)))), (h3, .inl ((TY D)[0].1, 4, .inl (nf (va_cpy (sv_cr o) (sv_cr s) 0 0 4)))), (h4, .inl ((TY D)[0].1, 4, .inl (va_cpy (sv_se o) (sv_se s) 0 0 4))), (o0, .inr (5, [.ref o1, .ref o2, .ref o3, .int (nI (sv_nc o)), .ref o4, .ref o5, .int (sv_la o), .int (sv_st o), .int (sv_sw o), .int (sv_fl o), .int (sv_sk o), .int (sv_mu o)])), (o1, .inl ((TY D)[0].1, 144, .inl (nf (sv_g o)))), (o2, .inl ((TY D)[0].1, 4, .inl (nf (sv_cc o)))), (o3, .inl ((TY D)[0].1, 4, .inl (nf (sv_cr o)))), (o4, .inl ((TY D)[0].1, 4, .inl (sv_se o))), (h5, .inr (4, [.int (nI 16), .ref h6, .ref h7, .ref h8, .int (nI (sv_ps o))])), (h6, .inl ((TY D)[0].1, 16, .inl (nf (apf (sv_fs s) (sv_fs o) 0 (sv_ps o))))), (h7, .inl ((TY D)[0].1, 16, .inl (nf (apf (sv_fa s) (sv_fa o) 0 (sv_ps o))))), (h8, .inl ((TY D)[0].1, 16, .inl (nf (apf (sv_fk s) (sv_fk o) 0 (sv_ps o))))), (o5, .inr (4, [.int (nI 16), .ref o6, .ref o7, .ref o8, .int (nI (sv_ps o))])), (o6, .inl ((TY D)[0].1, 16, .inl (nf (sv_fs o)))), (o7, .inl ((TY D)[0].1, 16, .inl (nf (sv_fa o)))), (o8, .inl ((TY D)[0].1, 16, .inl (nf (sv_fk o))))]) O hiX5_copyFrom_X5 tyX5 tyX5_ok nmX5 0 rfl rfl 7 (by decide) (by decide +kernel) rfl (tyX5_ok 7 (by decide)) rfl rfl (Nat.le_of_ble_eq_true rfl) dX5_copyFrom_90 rfl ?_
  refine g_aload_n O dX5_copyFrom_93 0 rfl rfl ?_
  refine g_aload_n O dX5_copyFrom_94 1 rfl rfl ?_
  refine g_get O hiX5_copyFrom_X5 5 rfl rfl 8 (by decide) (by decide +kernel) rfl dX5_copyFrom_95 ?_
  refine g_put (ws' := [(h0, .inr (5, [.ref h1, .ref h2, .ref h3, .int (nI (sv_nc o)), .ref h4, .ref h5, .int (sv_la o), .int (sv_st o), .int (sv_sw o), .int (sv_fl s), .int (sv_sk s), .int (sv_mu s)])), (h1, .inl ((TY D)[0].1, 144, .inl (nf (va_cpy (sv_g o) (sv_g s) 0 0 144)))), (h2, .inl ((TY D)[0].1, 4, .inl (nf (va_cpy (sv_cc o) (sv_cc s) 0 0 4)))), (h3, .inl ((TY D)[0].1, 4, .inl (nf (va_cpy (sv_cr o) (sv_cr s) 0 0 4)))), (h4, .inl ((TY D)[0].1, 4, .inl (va_cpy (sv_se o) (sv_se s) 0 0 4))), (o0, .inr (5, [.ref o1, .ref o2, .ref o3, .int (nI (sv_nc o)), .ref o4, .ref o5, .int (sv_la o), .int (sv_st o), .int (sv_sw o), .int (sv_fl o), .int (sv_sk o), .int (sv_mu o)])), (o1, .inl ((TY D)[0].1, 144, .inl (nf (sv_g o)))), (o2, .inl ((TY D)[0].1, 4, .inl (nf (sv_cc o)))), (o3, .inl ((TY D)[0].1, 4, .inl (nf (sv_cr o)))), (o4, .inl ((TY D)[0].1, 4, .inl (sv_se o))), (h5, .inr (4, [.int (nI 16), .ref h6, .ref h7, .ref h8, .int (nI (sv_ps o))])), (h6, .inl ((TY D)[0].1, 16, .inl (nf (apf (sv_fs s) (sv_fs o) 0 (sv_ps o))))), (h7, .inl ((TY D)[0].1, 16, .inl (nf (apf (sv_fa s) (sv_fa o) 0 (sv_ps o))))), (h8, .inl ((TY D)[0].1, 16, .inl (nf (apf (sv_fk s) (sv_fk o) 0 (sv_ps o))))), (o5, .inr (4, [.int (nI 16), .ref o6, .ref o7, .ref o8, .int (nI (sv_ps o))])), (o6, .inl ((TY D)[0].1, 16, .inl (nf (sv_fs o)))), (o7, .inl ((TY D)[0].1, 16, .inl (nf (sv_fa o)))), (o8, .inl ((TY D)[0].1, 16, .inl (nf (sv_fk o))))]) O hiX5_copyFrom_X5 tyX5 tyX5_ok nmX5 0 rfl rfl 8 (by decide) (by decide +kernel) rfl (tyX5_ok 8 (by decide)) rfl rfl (Nat.le_of_ble_eq_true rfl) dX5_copyFrom_98 rfl ?_
  refine g_aload_n O dX5_copyFrom_101 0 rfl rfl ?_
  refine g_aload_n O dX5_copyFrom_102 1 rfl rfl ?_
  refine g_get O hiX5_copyFrom_X5 5 rfl rfl 9 (by decide) (by decide +kernel) rfl dX5_copyFrom_103 ?_
  refine g_put (ws' := [(h0, .inr (5, [.ref h1, .ref h2, .ref h3, .int (nI (sv_nc o)), .ref h4, .ref h5, .int (sv_la o), .int (sv_st o), .int (sv_sw o), .int (sv_fl o), .int (sv_sk s), .int (sv_mu s)])), (h1, .inl ((TY D)[0].1, 144, .inl (nf (va_cpy (sv_g o) (sv_g s) 0 0 144)))), (h2, .inl ((TY D)[0].1, 4, .inl (nf (va_cpy (sv_cc o) (sv_cc s) 0 0 4)))), (h3, .inl ((TY D)[0].1, 4, .inl (nf (va_cpy (sv_cr o) (sv_cr s) 0 0 4)))), (h4, .inl ((TY D)[0].1, 4, .inl (va_cpy (sv_se o) (sv_se s) 0 0 4))), (o0, .inr (5, [.ref o1, .ref o2, .ref o3, .int (nI (sv_nc o)), .ref o4, .ref o5, .int (sv_la o), .int (sv_st o), .int (sv_sw o), .int (sv_fl o), .int (sv_sk o), .int (sv_mu o)])), (o1, .inl ((TY D)[0].1, 144, .inl (nf (sv_g o)))), (o2, .inl ((TY D)[0].1, 4, .inl (nf (sv_cc o)))), (o3, .inl ((TY D)[0].1, 4, .inl (nf (sv_cr o)))), (o4, .inl ((TY D)[0].1, 4, .inl (sv_se o))), (h5, .inr (4, [.int (nI 16), .ref h6, .ref h7, .ref h8, .int (nI (sv_ps o))])), (h6, .inl ((TY D)[0].1, 16, .inl (nf (apf (sv_fs s) (sv_fs o) 0 (sv_ps o))))), (h7, .inl ((TY D)[0].1, 16, .inl (nf (apf (sv_fa s) (sv_fa o) 0 (sv_ps o))))), (h8, .inl ((TY D)[0].1, 16, .inl (nf (apf (sv_fk s) (sv_fk o) 0 (sv_ps o))))), (o5, .inr (4, [.int (nI 16), .ref o6, .ref o7, .ref o8, .int (nI (sv_ps o))])), (o6, .inl ((TY D)[0].1, 16, .inl (nf (sv_fs o)))), (o7, .inl ((TY D)[0].1, 16, .inl (nf (sv_fa o)))), (o8, .inl ((TY D)[0].1, 16, .inl (nf (sv_fk o))))]) O hiX5_copyFrom_X5 tyX5 tyX5_ok nmX5 0 rfl rfl 9 (by decide) (by decide +kernel) rfl (tyX5_ok 9 (by decide)) rfl rfl (Nat.le_of_ble_eq_true rfl) dX5_copyFrom_106 rfl ?_
  refine g_aload_n O dX5_copyFrom_109 0 rfl rfl ?_
  refine g_aload_n O dX5_copyFrom_110 1 rfl rfl ?_
  refine g_get O hiX5_copyFrom_X5 5 rfl rfl 10 (by decide) (by decide +kernel) rfl dX5_copyFrom_111 ?_
  refine g_put (ws' := [(h0, .inr (5, [.ref h1, .ref h2, .ref h3, .int (nI (sv_nc o)), .ref h4, .ref h5, .int (sv_la o), .int (sv_st o), .int (sv_sw o), .int (sv_fl o), .int (sv_sk o), .int (sv_mu s)])), (h1, .inl ((TY D)[0].1, 144, .inl (nf (va_cpy (sv_g o) (sv_g s) 0 0 144)))), (h2, .inl ((TY D)[0].1, 4, .inl (nf (va_cpy (sv_cc o) (sv_cc s) 0 0 4)))), (h3, .inl ((TY D)[0].1, 4, .inl (nf (va_cpy (sv_cr o) (sv_cr s) 0 0 4)))), (h4, .inl ((TY D)[0].1, 4, .inl (va_cpy (sv_se o) (sv_se s) 0 0 4))), (o0, .inr (5, [.ref o1, .ref o2, .ref o3, .int (nI (sv_nc o)), .ref o4, .ref o5, .int (sv_la o), .int (sv_st o), .int (sv_sw o), .int (sv_fl o), .int (sv_sk o), .int (sv_mu o)])), (o1, .inl ((TY D)[0].1, 144, .inl (nf (sv_g o)))), (o2, .inl ((TY D)[0].1, 4, .inl (nf (sv_cc o)))), (o3, .inl ((TY D)[0].1, 4, .inl (nf (sv_cr o)))), (o4, .inl ((TY D)[0].1, 4, .inl (sv_se o))), (h5, .inr (4, [.int (nI 16), .ref h6, .ref h7, .ref h8, .int (nI (sv_ps o))])), (h6, .inl ((TY D)[0].1, 16, .inl (nf (apf (sv_fs s) (sv_fs o) 0 (sv_ps o))))), (h7, .inl ((TY D)[0].1, 16, .inl (nf (apf (sv_fa s) (sv_fa o) 0 (sv_ps o))))), (h8, .inl ((TY D)[0].1, 16, .inl (nf (apf (sv_fk s) (sv_fk o) 0 (sv_ps o))))), (o5, .inr (4, [.int (nI 16), .ref o6, .ref o7, .ref o8, .int (nI (sv_ps o))])), (o6, .inl ((TY D)[0].1, 16, .inl (nf (sv_fs o)))), (o7, .inl ((TY D)[0].1, 16, .inl (nf (sv_fa o)))), (o8, .inl ((TY D)[0].1, 16, .inl (nf (sv_fk o))))]) O hiX5_copyFrom_X5 tyX5 tyX5_ok nmX5 0 rfl rfl 10 (by decide) (by decide +kernel) rfl (tyX5_ok 10 (by decide)) rfl rfl (Nat.le_of_ble_eq_true rfl) dX5_copyFrom_114 rfl ?_
  refine g_aload_n O dX5_copyFrom_117 0 rfl rfl ?_
  refine g_aload_n O dX5_copyFrom_118 1 rfl rfl ?_
  refine g_get O hiX5_copyFrom_X5 5 rfl rfl 11 (by decide) (by decide +kernel) rfl dX5_copyFrom_119 ?_
  refine g_put (ws' := [(h0, .inr (5, [.ref h1, .ref h2, .ref h3, .int (nI (sv_nc o)), .ref h4, .ref h5, .int (sv_la o), .int (sv_st o), .int (sv_sw o), .int (sv_fl o), .int (sv_sk o), .int (sv_mu o)])), (h1, .inl ((TY D)[0].1, 144, .inl (nf (va_cpy (sv_g o) (sv_g s) 0 0 144)))), (h2, .inl ((TY D)[0].1, 4, .inl (nf (va_cpy (sv_cc o) (sv_cc s) 0 0 4)))), (h3, .inl ((TY D)[0].1, 4, .inl (nf (va_cpy (sv_cr o) (sv_cr s) 0 0 4)))), (h4, .inl ((TY D)[0].1, 4, .inl (va_cpy (sv_se o) (sv_se s) 0 0 4))), (o0, .inr (5, [.ref o1, .ref o2, .ref o3, .int (nI (sv_nc o)), .ref o4, .ref o5, .int (sv_la o), .int (sv_st o), .int (sv_sw o), .int (sv_fl o), .int (sv_sk o), .int (sv_mu o)])), (o1, .inl ((TY D)[0].1, 144, .inl (nf (sv_g o)))), (o2, .inl ((TY D)[0].1, 4, .inl (nf (sv_cc o)))), (o3, .inl ((TY D)[0].1, 4, .inl (nf (sv_cr o)))), (o4, .inl ((TY D)[0].1, 4, .inl (sv_se o))), (h5, .inr (4, [.int (nI 16), .ref h6, .ref h7, .ref h8, .int (nI (sv_ps o))])), (h6, .inl ((TY D)[0].1, 16, .inl (nf (apf (sv_fs s) (sv_fs o) 0 (sv_ps o))))), (h7, .inl ((TY D)[0].1, 16, .inl (nf (apf (sv_fa s) (sv_fa o) 0 (sv_ps o))))), (h8, .inl ((TY D)[0].1, 16, .inl (nf (apf (sv_fk s) (sv_fk o) 0 (sv_ps o))))), (o5, .inr (4, [.int (nI 16), .ref o6, .ref o7, .ref o8, .int (nI (sv_ps o))])), (o6, .inl ((TY D)[0].1, 16, .inl (nf (sv_fs o)))), (o7, .inl ((TY D)[0].1, 16, .inl (nf (sv_fa o)))), (o8, .inl ((TY D)[0].1, 16, .inl (nf (sv_fk o))))]) O hiX5_copyFrom_X5 tyX5 tyX5_ok nmX5 0 rfl rfl 11 (by decide) (by decide +kernel) rfl (tyX5_ok 11 (by decide)) rfl rfl (Nat.le_of_ble_eq_true rfl) dX5_copyFrom_122 rfl ?_
  refine g_perm (ws' := [(h0, .inr (5, [.ref h1, .ref h2, .ref h3, .int (nI (sv_nc o)), .ref h4, .ref h5, .int (sv_la o), .int (sv_st o), .int (sv_sw o), .int (sv_fl o), .int (sv_sk o), .int (sv_mu o)])), (h1, .inl ((TY D)[0].1, 144, .inl (nf (va_cpy (sv_g o) (sv_g s) 0 0 144)))), (h2, .inl ((TY D)[0].1, 4, .inl (nf (va_cpy (sv_cc o) (sv_cc s) 0 0 4)))), (h3, .inl ((TY D)[0].1, 4, .inl (nf (va_cpy (sv_cr o) (sv_cr s) 0 0 4)))), (h4, .inl ((TY D)[0].1, 4, .inl (va_cpy (sv_se o) (sv_se s) 0 0 4))), (h5, .inr (4, [.int (nI 16), .ref h6, .ref h7, .ref h8, .int (nI (sv_ps o))])), (h6, .inl ((TY D)[0].1, 16, .inl (nf (apf (sv_fs s) (sv_fs o) 0 (sv_ps o))))), (h7, .inl ((TY D)[0].1, 16, .inl (nf (apf (sv_fa s) (sv_fa o) 0 (sv_ps o))))), (h8, .inl ((TY D)[0].1, 16, .inl (nf (apf (sv_fk s) (sv_fk o) 0 (sv_ps o))))), (o0, .inr (5, [.ref o1, .ref o2, .ref o3, .int (nI (sv_nc o)), .ref o4, .ref o5, .int (sv_la o), .int (sv_st o), .int (sv_sw o), .int (sv_fl o), .int (sv_sk o), .int (sv_mu o)])), (o1, .inl ((TY D)[0].1, 144, .inl (nf (sv_g o)))), (o2, .inl ((TY D)[0].1, 4, .inl (nf (sv_cc o)))), (o3, .inl ((TY D)[0].1, 4, .inl (nf (sv_cr o)))), (o4, .inl ((TY D)[0].1, 4, .inl (sv_se o))), (o5, .inr (4, [.int (nI 16), .ref o6, .ref o7, .ref o8, .int (nI (sv_ps o))])), (o6, .inl ((TY D)[0].1, 16, .inl (nf (sv_fs o)))), (o7, .inl ((TY D)[0].1, 16, .inl (nf (sv_fa o)))), (o8, .inl ((TY D)[0].1, 16, .inl (nf (sv_fk o))))]) [0, 1, 2, 3, 4, 10, 11, 12, 13, 5, 6, 7, 8, 9, 14, 15, 16, 17] rfl (by decide) ?_
  exact E 125 _ _ dX5_copyFrom_125 ⟨rfl, rfl⟩

def SV0 : SV := mkS (cvf (fun _ => 0) 5 144) (fun _ => 0) (fun _ => 0) 0 (va_cpy zF (nf (fun _ => 0)) 0 0 4) (fun _ => 0) (fun _ => 0) (fun _ => 0) 0 (-1) (nI 720) (nI 0) (nI 0) (nI 0) (nI 0)
theorem hiX5_init_X4 : ∀ w ∈ wsX40, w ∈ wsX5_init := by decide +kernel
theorem hiX5_init_X5 : ∀ w ∈ wsX50, w ∈ wsX5_init := by decide +kernel
set_option maxHeartbeats 4000000 in
set_option maxRecDepth 100000 in
/-- a new state -/
theorem kX5_init (l : Launch) (D : va_G) (z : Nat × Nat × Nat) (h0 : Nat)  : CM l yX5_init wsX5_init ({ frames := 2, cells := 8, slots := 209, locals := 42 } : Room) D z [.ref h0] [(h0, .inr (5, [.null, .null, .null, .int (nI 0), .null, .null, .int (nI 0), .int (nI 0), .int (nI 0), .int (nI 0), .int (nI 0), .int (nI 0)]))] (fun r w => ∃ (q0 : Nat), ∃ (q1 : Nat), ∃ (q2 : Nat), ∃ (q3 : Nat), ∃ (q4 : Nat), ∃ (q5 : Nat), ∃ (q6 : Nat), ∃ (q7 : Nat), r = none ∧ w = [(h0, .inr (5, [.ref q0, .ref q1, .ref q2, .int (nI (sv_nc SV0)), .ref q3, .ref q4, .int (sv_la SV0), .int (sv_st SV0), .int (sv_sw SV0), .int (sv_fl SV0), .int (sv_sk SV0), .int (sv_mu SV0)])), (q0, .inl ((TY D)[0].1, 144, .inl (nf (sv_g SV0)))), (q1, .inl ((TY D)[0].1, 4, .inl (nf (sv_cc SV0)))), (q2, .inl ((TY D)[0].1, 4, .inl (nf (sv_cr SV0)))), (q3, .inl ((TY D)[0].1, 4, .inl (sv_se SV0))), (q4, .inr (4, [.int (nI 16), .ref q5, .ref q6, .ref q7, .int (nI (sv_ps SV0))])), (q5, .inl ((TY D)[0].1, 16, .inl (nf (sv_fs SV0)))), (q6, .inl ((TY D)[0].1, 16, .inl (nf (sv_fa SV0)))), (q7, .inl ((TY D)[0].1, 16, .inl (nf (sv_fk SV0))))]) 8 209 := by
  refine CM_void (own := RX5) (cc := cX5_init) (maxL := 1) (L0 := [(0, .ref h0)]) (by decide) rfl rfl (Nat.le_of_ble_eq_true rfl) rfl (fun X O E => ?_)
  refine g_aload_n O dX5_init_0 0 rfl rfl ?_
  refine g_objInit O (by decide +kernel) (by decide +kernel) (by decide +kernel) (by decide) (Nat.le_of_ble_eq_true rfl) dX5_init_1 ?_
  refine g_aload_n O dX5_init_4 0 rfl rfl ?_
  refine g_sipush (x := (nI 144)) O dX5_init_5 (by decide +kernel) ?_
  refine g_newI (N := 144) O (by decide +kernel) (nI_pos (by decide)) (nI_clamp (by decide)) (by decide) (by decide) (by decide) dX5_init_8 (fun q_1 => ?_)
  refine g_eq (ws' := [(h0, .inr (5, [.null, .null, .null, .int (nI 0), .null, .null, .int (nI 0), .int (nI 0), .int (nI 0), .int (nI 0), .int (nI 0), .int (nI 0)])), (q_1, .inl ((TY D)[0].1, 144, .inl (nf (fun _ => 0))))]) rfl rfl (by rfl) ?_
  refine g_putF (ws' := [(h0, .inr (5, [.ref q_1, .null, .null, .int (nI 0), .null, .null, .int (nI 0), .int (nI 0), .int (nI 0), .int (nI 0), .int (nI 0), .int (nI 0)])), (q_1, .inl ((TY D)[0].1, 144, .inl (nf (fun _ => 0))))]) O hiX5_init_X5 tyX5 tyX5_ok nmX5 0 rfl rfl 0 (by decide) (by decide +kernel) rfl rfl rfl (tyX5_ok 0 (by decide)) rfl rfl (Nat.le_of_ble_eq_true rfl) dX5_init_10 rfl ?_
  refine g_aload_n O dX5_init_13 0 rfl rfl ?_
  refine g_iconst (x := (nI 4)) O dX5_init_14 (by decide +kernel) ?_
  refine g_newI (N := 4) O (by decide +kernel) (nI_pos (by decide)) (nI_clamp (by decide)) (by decide) (by decide) (by decide) dX5_init_15 (fun q_2 => ?_)
  refine g_eq (ws' := [(h0, .inr (5, [.ref q_1, .null, .null, .int (nI 0), .null, .null, .int (nI 0), .int (nI 0), .int (nI 0), .int (nI 0), .int (nI 0), .int (nI 0)])), (q_1, .inl ((TY D)[0].1, 144, .inl (nf (fun _ => 0)))), (q_2, .inl ((TY D)[0].1, 4, .inl (nf (fun _ => 0))))]) rfl rfl (by rfl) ?_
  refine g_putF (ws' := [(h0, .inr (5, [.ref q_1, .ref q_2, .null, .int (nI 0), .null, .null, .int (nI 0), .int (nI 0), .int (nI 0), .int (nI 0), .int (nI 0), .int (nI 0)])), (q_1, .inl ((TY D)[0].1, 144, .inl (nf (fun _ => 0)))), (q_2, .inl ((TY D)[0].1, 4, .inl (nf (fun _ => 0))))]) O hiX5_init_X5 tyX5 tyX5_ok nmX5 0 rfl rfl 1 (by decide) (by decide +kernel) rfl rfl rfl (tyX5_ok 1 (by decide)) rfl rfl (Nat.le_of_ble_eq_true rfl) dX5_init_17 rfl ?_
  refine g_aload_n O dX5_init_20 0 rfl rfl ?_
  refine g_iconst (x := (nI 4)) O dX5_init_21 (by decide +kernel) ?_
  refine g_newI (N := 4) O (by decide +kernel) (nI_pos (by decide)) (nI_clamp (by decide)) (by decide) (by decide) (by decide) dX5_init_22 (fun q_3 => ?_)
  refine g_eq (ws' := [(h0, .inr (5, [.ref q_1, .ref q_2, .null, .int (nI 0), .null, .null, .int (nI 0), .int (nI 0), .int (nI 0), .int (nI 0), .int (nI 0), .int (nI 0)])), (q_1, .inl ((TY D)[0].1, 144, .inl (nf (fun _ => 0)))), (q_2, .inl ((TY D)[0].1, 4, .inl (nf (fun _ => 0)))), (q_3, .inl ((TY D)[0].1, 4, .inl (nf (fun _ => 0))))]) rfl rfl (by rfl) ?_
  refine g_putF (ws' := [(h0, .inr (5, [.ref q_1, .ref q_2, .ref q_3, .int (nI 0), .null, .null, .int (nI 0), .int (nI 0), .int (nI 0), .int (nI 0), .int (nI 0), .int (nI 0)])), (q_1, .inl ((TY D)[0].1, 144, .inl (nf (fun _ => 0)))), (q_2, .inl ((TY D)[0].1, 4, .inl (nf (fun _ => 0)))), (q_3, .inl ((TY D)[0].1, 4, .inl (nf (fun _ => 0))))]) O hiX5_init_X5 tyX5 tyX5_ok nmX5 0 rfl rfl 2 (by decide) (by decide +kernel) rfl rfl rfl (tyX5_ok 2 (by decide)) rfl rfl (Nat.le_of_ble_eq_true rfl) dX5_init_24 rfl ?_
  refine g_aload_n O dX5_init_27 0 rfl rfl ?_
  refine g_iconst (x := (nI 0)) O dX5_init_28 (by decide +kernel) ?_
  refine g_put (ws' := [(h0, .inr (5, [.ref q_1, .ref q_2, .ref q_3, .int (nI 0), .null, .null, .int (nI 0), .int (nI 0), .int (nI 0), .int (nI 0), .int (nI 0), .int (nI 0)])), (q_1, .inl ((TY D)[0].1, 144, .inl (nf (fun _ => 0)))), (q_2, .inl ((TY D)[0].1, 4, .inl (nf (fun _ => 0)))), (q_3, .inl ((TY D)[0].1, 4, .inl (nf (fun _ => 0))))]) O hiX5_init_X5 tyX5 tyX5_ok nmX5 0 rfl rfl 3 (by decide) (by decide +kernel) rfl (tyX5_ok 3 (by decide)) rfl rfl (Nat.le_of_ble_eq_true rfl) dX5_init_29 rfl ?_
  refine g_aload_n O dX5_init_32 0 rfl rfl ?_
  refine g_iconst (x := (nI 4)) O dX5_init_33 (by decide +kernel) ?_
  refine g_newI (N := 4) O (by decide +kernel) (nI_pos (by decide)) (nI_clamp (by decide)) (by decide) (by decide) (by decide) dX5_init_34 (fun q_4 => ?_)
  refine g_eq (ws' := [(h0, .inr (5, [.ref q_1, .ref q_2, .ref q_3, .int (nI 0), .null, .null, .int (nI 0), .int (nI 0), .int (nI 0), .int (nI 0), .int (nI 0), .int (nI 0)])), (q_1, .inl ((TY D)[0].1, 144, .inl (nf (fun _ => 0)))), (q_2, .inl ((TY D)[0].1, 4, .inl (nf (fun _ => 0)))), (q_3, .inl ((TY D)[0].1, 4, .inl (nf (fun _ => 0)))), (q_4, .inl ((TY D)[0].1, 4, .inl (nf (fun _ => 0))))]) rfl rfl (by rfl) ?_
  refine g_putF (ws' := [(h0, .inr (5, [.ref q_1, .ref q_2, .ref q_3, .int (nI 0), .ref q_4, .null, .int (nI 0), .int (nI 0), .int (nI 0), .int (nI 0), .int (nI 0), .int (nI 0)])), (q_1, .inl ((TY D)[0].1, 144, .inl (nf (fun _ => 0)))), (q_2, .inl ((TY D)[0].1, 4, .inl (nf (fun _ => 0)))), (q_3, .inl ((TY D)[0].1, 4, .inl (nf (fun _ => 0)))), (q_4, .inl ((TY D)[0].1, 4, .inl (nf (fun _ => 0))))]) O hiX5_init_X5 tyX5 tyX5_ok nmX5 0 rfl rfl 4 (by decide) (by decide +kernel) rfl rfl rfl (tyX5_ok 4 (by decide)) rfl rfl (Nat.le_of_ble_eq_true rfl) dX5_init_36 rfl ?_
  refine g_aload_n O dX5_init_39 0 rfl rfl ?_
  refine g_new (ci := 4) (fs := [.int 0, .null, .null, .null, .int 0]) O hiX5_init_X4 tyX4 tyX4_ok (by decide +kernel) (by decide +kernel) (by decide +kernel) rfl (fun j hj => by rcases (show j = 0 ∨ j = 1 ∨ j = 2 ∨ j = 3 ∨ j = 4 by omega) with rfl | rfl | rfl | rfl | rfl <;> rfl) (by decide) (by decide) dX5_init_40 (fun q_5 => ?_)
  refine g_eq (ws' := [(h0, .inr (5, [.ref q_1, .ref q_2, .ref q_3, .int (nI 0), .ref q_4, .null, .int (nI 0), .int (nI 0), .int (nI 0), .int (nI 0), .int (nI 0), .int (nI 0)])), (q_1, .inl ((TY D)[0].1, 144, .inl (nf (fun _ => 0)))), (q_2, .inl ((TY D)[0].1, 4, .inl (nf (fun _ => 0)))), (q_3, .inl ((TY D)[0].1, 4, .inl (nf (fun _ => 0)))), (q_4, .inl ((TY D)[0].1, 4, .inl (nf (fun _ => 0)))), (q_5, .inr (4, [.int (nI 0), .null, .null, .null, .int (nI 0)]))]) rfl rfl rfl ?_
  refine g_dup O dX5_init_43 rfl ?_
  refine g_bipush (x := (nI 16)) O dX5_init_44 (by decide +kernel) ?_
  refine g_callI (As := [.int (nI 16)]) (wr := [(h0, .inr (5, [.ref q_1, .ref q_2, .ref q_3, .int (nI 0), .ref q_4, .null, .int (nI 0), .int (nI 0), .int (nI 0), .int (nI 0), .int (nI 0), .int (nI 0)])), (q_1, .inl ((TY D)[0].1, 144, .inl (nf (fun _ => 0)))), (q_2, .inl ((TY D)[0].1, 4, .inl (nf (fun _ => 0)))), (q_3, .inl ((TY D)[0].1, 4, .inl (nf (fun _ => 0)))), (q_4, .inl ((TY D)[0].1, 4, .inl (nf (fun _ => 0))))]) O (kX4_init16 l D z q_5 ) gX5_init_X4_init rfl rfl rfl 1 (by decide +kernel) (by decide) (by decide) (by decide +kernel) (by decide +kernel) (by decide +kernel) rfl [5] [0, 1, 2, 3, 4] rfl (by decide) rfl (by decide) (by decide) rfl rfl (Nat.le_of_ble_eq_true rfl) dX5_init_46 (fun r_6 w_7 hp => ?_)
  obtain ⟨q0_8, q1_9, q2_10, rfl, rfl⟩ := hp
  refine g_eq (st' := [.ref q_5, .ref h0]) (ws' := [(h0, .inr (5, [.ref q_1, .ref q_2, .ref q_3, .int (nI 0), .ref q_4, .null, .int (nI 0), .int (nI 0), .int (nI 0), .int (nI 0), .int (nI 0), .int (nI 0)])), (q_1, .inl ((TY D)[0].1, 144, .inl (nf (fun _ => 0)))), (q_2, .inl ((TY D)[0].1, 4, .inl (nf (fun _ => 0)))), (q_3, .inl ((TY D)[0].1, 4, .inl (nf (fun _ => 0)))), (q_4, .inl ((TY D)[0].1, 4, .inl (nf (fun _ => 0)))), (q_5, .inr (4, [.int (nI 16), .ref q0_8, .ref q1_9, .ref q2_10, .int (nI 0)])), (q0_8, .inl ((TY D)[0].1, 16, .inl (nf (fun _ => 0)))), (q1_9, .inl ((TY D)[0].1, 16, .inl (nf (fun _ => 0)))), (q2_10, .inl ((TY D)[0].1, 16, .inl (nf (fun _ => 0))))]) rfl rfl rfl ?_
  refine g_putF (ws' := [(h0, .inr (5, [.ref q_1, .ref q_2, .ref q_3, .int (nI 0), .ref q_4, .ref q_5, .int (nI 0), .int (nI 0), .int (nI 0), .int (nI 0), .int (nI 0), .int (nI 0)])), (q_1, .inl ((TY D)[0].1, 144, .inl (nf (fun _ => 0)))), (q_2, .inl ((TY D)[0].1, 4, .inl (nf (fun _ => 0)))), (q_3, .inl ((TY D)[0].1, 4, .inl (nf (fun _ => 0)))), (q_4, .inl ((TY D)[0].1, 4, .inl (nf (fun _ => 0)))), (q_5, .inr (4, [.int (nI 16), .ref q0_8, .ref q1_9, .ref q2_10, .int (nI 0)])), (q0_8, .inl ((TY D)[0].1, 16, .inl (nf (fun _ => 0)))), (q1_9, .inl ((TY D)[0].1, 16, .inl (nf (fun _ => 0)))), (q2_10, .inl ((TY D)[0].1, 16, .inl (nf (fun _ => 0))))]) O hiX5_init_X5 tyX5 tyX5_ok nmX5 0 rfl rfl 5 (by decide) (by decide +kernel) rfl rfl rfl (tyX5_ok 5 (by decide)) rfl rfl (Nat.le_of_ble_eq_true rfl) dX5_init_49 rfl ?_
  refine g_aload_n O dX5_init_52 0 rfl rfl ?_
  refine g_iconst (x := (-1)) O dX5_init_53 (by decide +kernel) ?_
  refine g_put (ws' := [(h0, .inr (5, [.ref q_1, .ref q_2, .ref q_3, .int (nI 0), .ref q_4, .ref q_5, .int (-1), .int (nI 0), .int (nI 0), .int (nI 0), .int (nI 0), .int (nI 0)])), (q_1, .inl ((TY D)[0].1, 144, .inl (nf (fun _ => 0)))), (q_2, .inl ((TY D)[0].1, 4, .inl (nf (fun _ => 0)))), (q_3, .inl ((TY D)[0].1, 4, .inl (nf (fun _ => 0)))), (q_4, .inl ((TY D)[0].1, 4, .inl (nf (fun _ => 0)))), (q_5, .inr (4, [.int (nI 16), .ref q0_8, .ref q1_9, .ref q2_10, .int (nI 0)])), (q0_8, .inl ((TY D)[0].1, 16, .inl (nf (fun _ => 0)))), (q1_9, .inl ((TY D)[0].1, 16, .inl (nf (fun _ => 0)))), (q2_10, .inl ((TY D)[0].1, 16, .inl (nf (fun _ => 0))))]) O hiX5_init_X5 tyX5 tyX5_ok nmX5 0 rfl rfl 6 (by decide) (by decide +kernel) rfl (tyX5_ok 6 (by decide)) rfl rfl (Nat.le_of_ble_eq_true rfl) dX5_init_54 rfl ?_
  refine g_aload_n O dX5_init_57 0 rfl rfl ?_
  refine g_sipush (x := (nI 720)) O dX5_init_58 (by decide +kernel) ?_
  refine g_put (ws' := [(h0, .inr (5, [.ref q_1, .ref q_2, .ref q_3, .int (nI 0), .ref q_4, .ref q_5, .int (-1), .int (nI 720), .int (nI 0), .int (nI 0), .int (nI 0), .int (nI 0)])), (q_1, .inl ((TY D)[0].1, 144, .inl (nf (fun _ => 0)))), (q_2, .inl ((TY D)[0].1, 4, .inl (nf (fun _ => 0)))), (q_3, .inl ((TY D)[0].1, 4, .inl (nf (fun _ => 0)))), (q_4, .inl ((TY D)[0].1, 4, .inl (nf (fun _ => 0)))), (q_5, .inr (4, [.int (nI 16), .ref q0_8, .ref q1_9, .ref q2_10, .int (nI 0)])), (q0_8, .inl ((TY D)[0].1, 16, .inl (nf (fun _ => 0)))), (q1_9, .inl ((TY D)[0].1, 16, .inl (nf (fun _ => 0)))), (q2_10, .inl ((TY D)[0].1, 16, .inl (nf (fun _ => 0))))]) O hiX5_init_X5 tyX5 tyX5_ok nmX5 0 rfl rfl 7 (by decide) (by decide +kernel) rfl (tyX5_ok 7 (by decide)) rfl rfl (Nat.le_of_ble_eq_true rfl) dX5_init_61 rfl ?_
  refine g_aload_n O dX5_init_64 0 rfl rfl ?_
  refine g_iconst (x := (nI 0)) O dX5_init_65 (by decide +kernel) ?_
  refine g_put (ws' := [(h0, .inr (5, [.ref q_1, .ref q_2, .ref q_3, .int (nI 0), .ref q_4, .ref q_5, .int (-1), .int (nI 720), .int (nI 0), .int (nI 0), .int (nI 0), .int (nI 0)])), (q_1, .inl ((TY D)[0].1, 144, .inl (nf (fun _ => 0)))), (q_2, .inl ((TY D)[0].1, 4, .inl (nf (fun _ => 0)))), (q_3, .inl ((TY D)[0].1, 4, .inl (nf (fun _ => 0)))), (q_4, .inl ((TY D)[0].1, 4, .inl (nf (fun _ => 0)))), (q_5, .inr (4, [.int (nI 16), .ref q0_8, .ref q1_9, .ref q2_10, .int (nI 0)])), (q0_8, .inl ((TY D)[0].1, 16, .inl (nf (fun _ => 0)))), (q1_9, .inl ((TY D)[0].1, 16, .inl (nf (fun _ => 0)))), (q2_10, .inl ((TY D)[0].1, 16, .inl (nf (fun _ => 0))))]) O hiX5_init_X5 tyX5 tyX5_ok nmX5 0 rfl rfl 8 (by decide) (by decide +kernel) rfl (tyX5_ok 8 (by decide)) rfl rfl (Nat.le_of_ble_eq_true rfl) dX5_init_66 rfl ?_
  refine g_aload_n O dX5_init_69 0 rfl rfl ?_
  refine g_iconst (x := (nI 0)) O dX5_init_70 (by decide +kernel) ?_
  refine g_put (ws' := [(h0, .inr (5, [.ref q_1, .ref q_2, .ref q_3, .int (nI 0), .ref q_4, .ref q_5, .int (-1), .int (nI 720), .int (nI 0), .int (nI 0), .int (nI 0), .int (nI 0)])), (q_1, .inl ((TY D)[0].1, 144, .inl (nf (fun _ => 0)))), (q_2, .inl ((TY D)[0].1, 4, .inl (nf (fun _ => 0)))), (q_3, .inl ((TY D)[0].1, 4, .inl (nf (fun _ => 0)))), (q_4, .inl ((TY D)[0].1, 4, .inl (nf (fun _ => 0)))), (q_5, .inr (4, [.int (nI 16), .ref q0_8, .ref q1_9, .ref q2_10, .int (nI 0)])), (q0_8, .inl ((TY D)[0].1, 16, .inl (nf (fun _ => 0)))), (q1_9, .inl ((TY D)[0].1, 16, .inl (nf (fun _ => 0)))), (q2_10, .inl ((TY D)[0].1, 16, .inl (nf (fun _ => 0))))]) O hiX5_init_X5 tyX5 tyX5_ok nmX5 0 rfl rfl 9 (by decide) (by decide +kernel) rfl (tyX5_ok 9 (by decide)) rfl rfl (Nat.le_of_ble_eq_true rfl) dX5_init_71 rfl ?_
  refine g_aload_n O dX5_init_74 0 rfl rfl ?_
  refine g_iconst (x := (nI 0)) O dX5_init_75 (by decide +kernel) ?_
  refine g_put (ws' := [(h0, .inr (5, [.ref q_1, .ref q_2, .ref q_3, .int (nI 0), .ref q_4, .ref q_5, .int (-1), .int (nI 720), .int (nI 0), .int (nI 0), .int (nI 0), .int (nI 0)])), (q_1, .inl ((TY D)[0].1, 144, .inl (nf (fun _ => 0)))), (q_2, .inl ((TY D)[0].1, 4, .inl (nf (fun _ => 0)))), (q_3, .inl ((TY D)[0].1, 4, .inl (nf (fun _ => 0)))), (q_4, .inl ((TY D)[0].1, 4, .inl (nf (fun _ => 0)))), (q_5, .inr (4, [.int (nI 16), .ref q0_8, .ref q1_9, .ref q2_10, .int (nI 0)])), (q0_8, .inl ((TY D)[0].1, 16, .inl (nf (fun _ => 0)))), (q1_9, .inl ((TY D)[0].1, 16, .inl (nf (fun _ => 0)))), (q2_10, .inl ((TY D)[0].1, 16, .inl (nf (fun _ => 0))))]) O hiX5_init_X5 tyX5 tyX5_ok nmX5 0 rfl rfl 10 (by decide) (by decide +kernel) rfl (tyX5_ok 10 (by decide)) rfl rfl (Nat.le_of_ble_eq_true rfl) dX5_init_76 rfl ?_
  refine g_aload_n O dX5_init_79 0 rfl rfl ?_
  refine g_iconst (x := (nI 0)) O dX5_init_80 (by decide +kernel) ?_
  refine g_put (ws' := [(h0, .inr (5, [.ref q_1, .ref q_2, .ref q_3, .int (nI 0), .ref q_4, .ref q_5, .int (-1), .int (nI 720), .int (nI 0), .int (nI 0), .int (nI 0), .int (nI 0)])), (q_1, .inl ((TY D)[0].1, 144, .inl (nf (fun _ => 0)))), (q_2, .inl ((TY D)[0].1, 4, .inl (nf (fun _ => 0)))), (q_3, .inl ((TY D)[0].1, 4, .inl (nf (fun _ => 0)))), (q_4, .inl ((TY D)[0].1, 4, .inl (nf (fun _ => 0)))), (q_5, .inr (4, [.int (nI 16), .ref q0_8, .ref q1_9, .ref q2_10, .int (nI 0)])), (q0_8, .inl ((TY D)[0].1, 16, .inl (nf (fun _ => 0)))), (q1_9, .inl ((TY D)[0].1, 16, .inl (nf (fun _ => 0)))), (q2_10, .inl ((TY D)[0].1, 16, .inl (nf (fun _ => 0))))]) O hiX5_init_X5 tyX5 tyX5_ok nmX5 0 rfl rfl 11 (by decide) (by decide +kernel) rfl (tyX5_ok 11 (by decide)) rfl rfl (Nat.le_of_ble_eq_true rfl) dX5_init_81 rfl ?_
  refine g_aload_n O dX5_init_84 0 rfl rfl ?_
  refine g_iconst (x := (nI 5)) O dX5_init_85 (by decide +kernel) ?_
  refine g_callV (As := [.int (nI 5)]) (wr := [(q_2, .inl ((TY D)[0].1, 4, .inl (nf (fun _ => 0)))), (q_3, .inl ((TY D)[0].1, 4, .inl (nf (fun _ => 0)))), (q_4, .inl ((TY D)[0].1, 4, .inl (nf (fun _ => 0)))), (q_5, .inr (4, [.int (nI 16), .ref q0_8, .ref q1_9, .ref q2_10, .int (nI 0)])), (q0_8, .inl ((TY D)[0].1, 16, .inl (nf (fun _ => 0)))), (q1_9, .inl ((TY D)[0].1, 16, .inl (nf (fun _ => 0)))), (q2_10, .inl ((TY D)[0].1, 16, .inl (nf (fun _ => 0))))]) O (kX5_coverWith l D z h0 q_1 q_2 q_3 q_4 q_5 0 (-1) (nI 720) (nI 0) (nI 0) (nI 0) (nI 0) (fun _ => 0) 5 ) gX5_init_X5_coverWith rfl rfl rfl 1 (by decide +kernel) (by decide) (by decide) (q0 := 0) rfl rfl rfl [0, 1] [2, 3, 4, 5, 6, 7, 8] rfl (by decide) rfl (by decide) (by decide) rfl rfl (Nat.le_of_ble_eq_true rfl) dX5_init_86 (fun r_11 w_12 hp => ?_)
  obtain ⟨rfl, rfl⟩ := hp
  refine g_eq (st' := []) (ws' := [(q_2, .inl ((TY D)[0].1, 4, .inl (nf (fun _ => 0)))), (q_3, .inl ((TY D)[0].1, 4, .inl (nf (fun _ => 0)))), (q_4, .inl ((TY D)[0].1, 4, .inl (nf (fun _ => 0)))), (q_5, .inr (4, [.int (nI 16), .ref q0_8, .ref q1_9, .ref q2_10, .int (nI 0)])), (q0_8, .inl ((TY D)[0].1, 16, .inl (nf (fun _ => 0)))), (q1_9, .inl ((TY D)[0].1, 16, .inl (nf (fun _ => 0)))), (q2_10, .inl ((TY D)[0].1, 16, .inl (nf (fun _ => 0)))), (h0, .inr (5, [.ref q_1, .ref q_2, .ref q_3, .int (nI 0), .ref q_4, .ref q_5, .int (-1), .int (nI 720), .int (nI 0), .int (nI 0), .int (nI 0), .int (nI 0)])), (q_1, .inl ((TY D)[0].1, 144, .inl (nf (cvf (fun _ => 0) 5 144))))]) rfl rfl rfl ?_
  refine g_getsF O 8 rfl dX5_init_89 ?_
  refine g_iconst (x := (nI 0)) O dX5_init_92 (by decide +kernel) ?_
  refine g_aload_n O dX5_init_93 0 rfl rfl ?_
  refine g_get O hiX5_init_X5 7 rfl rfl 4 (by decide) (by decide +kernel) rfl dX5_init_94 ?_
  refine g_iconst (x := (nI 0)) O dX5_init_97 (by decide +kernel) ?_
  refine g_iconst (x := (nI 4)) O dX5_init_98 (by decide +kernel) ?_
  refine g_copyT (ws' := [(q_2, .inl ((TY D)[0].1, 4, .inl (nf (fun _ => 0)))), (q_3, .inl ((TY D)[0].1, 4, .inl (nf (fun _ => 0)))), (q_4, .inl ((TY D)[0].1, 4, .inl (va_cpy zF (nf (fun _ => 0)) 0 0 4))), (q_5, .inr (4, [.int (nI 16), .ref q0_8, .ref q1_9, .ref q2_10, .int (nI 0)])), (q0_8, .inl ((TY D)[0].1, 16, .inl (nf (fun _ => 0)))), (q1_9, .inl ((TY D)[0].1, 16, .inl (nf (fun _ => 0)))), (q2_10, .inl ((TY D)[0].1, 16, .inl (nf (fun _ => 0)))), (h0, .inr (5, [.ref q_1, .ref q_2, .ref q_3, .int (nI 0), .ref q_4, .ref q_5, .int (-1), .int (nI 720), .int (nI 0), .int (nI 0), .int (nI 0), .int (nI 0)])), (q_1, .inl ((TY D)[0].1, 144, .inl (nf (cvf (fun _ => 0) 5 144))))]) O 2 rfl (by decide +kernel) (by decide +kernel) (by decide +kernel) (by decide +kernel) (by decide) (Nat.le_of_ble_eq_true rfl) dX5_init_99 rfl ?_
  refine g_perm (ws' := [(h0, .inr (5, [.ref q_1, .ref q_2, .ref q_3, .int (nI 0), .ref q_4, .ref q_5, .int (-1), .int (nI 720), .int (nI 0), .int (nI 0), .int (nI 0), .int (nI 0)])), (q_1, .inl ((TY D)[0].1, 144, .inl (nf (cvf (fun _ => 0) 5 144)))), (q_2, .inl ((TY D)[0].1, 4, .inl (nf (fun _ => 0)))), (q_3, .inl ((TY D)[0].1, 4, .inl (nf (fun _ => 0)))), (q_4, .inl ((TY D)[0].1, 4, .inl (va_cpy zF (nf (fun _ => 0)) 0 0 4))), (q_5, .inr (4, [.int (nI 16), .ref q0_8, .ref q1_9, .ref q2_10, .int (nI 0)])), (q0_8, .inl ((TY D)[0].1, 16, .inl (nf (fun _ => 0)))), (q1_9, .inl ((TY D)[0].1, 16, .inl (nf (fun _ => 0)))), (q2_10, .inl ((TY D)[0].1, 16, .inl (nf (fun _ => 0))))]) [7, 8, 0, 1, 2, 3, 4, 5, 6] rfl (by decide) ?_
  exact E 102 _ _ dX5_init_102 (⟨_, _, _, _, _, _, _, _, rfl, rfl⟩)
end
