section
-- ===== PART A: goes FIRST, ahead of the names: the tables' words, and 'selects' of the private methods out of them =====
/-- a private method of a class that the tables say can be made, by its rows of tables_1 -/
def lw_okq (q : MethodName × Nat) : Prop := (q.1.cls ≠ "java/lang/invoke/MethodHandle" ∧ q.1.cls ≠ "java/lang/invoke/VarHandle") ∧ Cond.instantiable q.1.cls q.2 ∈ tables_1 ∧ Cond.privateMethod q.1 ∈ tables_1 ∧ Cond.instanceMethod q.1 ∈ tables_1
theorem lw_p0 : lw_okq (⟨"BowedPlate$Ways", "listWaysOf", "(II)V"⟩, 5) := ⟨⟨by decide +kernel, by decide +kernel⟩, List.mem_of_getElem? (i := 22) (by decide +kernel), List.mem_of_getElem? (i := 31) (by decide +kernel), List.mem_of_getElem? (i := 32) (by decide +kernel)⟩
theorem lw_p1 : lw_okq (⟨"BowedPlate", "isClamp", "(I)Z"⟩, 9) := ⟨⟨by decide +kernel, by decide +kernel⟩, List.mem_of_getElem? (i := 14) (by decide +kernel), List.mem_of_getElem? (i := 350) (by decide +kernel), List.mem_of_getElem? (i := 351) (by decide +kernel)⟩
theorem lw_p2 : lw_okq (⟨"BowedPlate$Text", "readBowing", "()Z"⟩, 4) := ⟨⟨by decide +kernel, by decide +kernel⟩, List.mem_of_getElem? (i := 227) (by decide +kernel), List.mem_of_getElem? (i := 385) (by decide +kernel), List.mem_of_getElem? (i := 386) (by decide +kernel)⟩
theorem lw_p3 : lw_okq (⟨"BowedPlate$Text", "next", "()I"⟩, 4) := ⟨⟨by decide +kernel, by decide +kernel⟩, List.mem_of_getElem? (i := 227) (by decide +kernel), List.mem_of_getElem? (i := 389) (by decide +kernel), List.mem_of_getElem? (i := 390) (by decide +kernel)⟩
theorem lw_p4 : lw_okq (⟨"BowedPlate$Text", "readNumber", "(II)I"⟩, 4) := ⟨⟨by decide +kernel, by decide +kernel⟩, List.mem_of_getElem? (i := 227) (by decide +kernel), List.mem_of_getElem? (i := 396) (by decide +kernel), List.mem_of_getElem? (i := 397) (by decide +kernel)⟩
theorem lw_p5 : lw_okq (⟨"BowedPlate", "playBowing", "(I)Z"⟩, 9) := ⟨⟨by decide +kernel, by decide +kernel⟩, List.mem_of_getElem? (i := 14) (by decide +kernel), List.mem_of_getElem? (i := 428) (by decide +kernel), List.mem_of_getElem? (i := 429) (by decide +kernel)⟩
theorem lw_p6 : lw_okq (⟨"BowedPlate$Choice", "swingAtBow", "(III)I"⟩, 5) := ⟨⟨by decide +kernel, by decide +kernel⟩, List.mem_of_getElem? (i := 158) (by decide +kernel), List.mem_of_getElem? (i := 440) (by decide +kernel), List.mem_of_getElem? (i := 441) (by decide +kernel)⟩
theorem lw_p7 : lw_okq (⟨"BowedPlate$Mover", "targetOf", "(II)I"⟩, 5) := ⟨⟨by decide +kernel, by decide +kernel⟩, List.mem_of_getElem? (i := 205) (by decide +kernel), List.mem_of_getElem? (i := 471) (by decide +kernel), List.mem_of_getElem? (i := 472) (by decide +kernel)⟩
theorem lw_p8 : lw_okq (⟨"BowedPlate$Mover", "calmerOf", "(III)I"⟩, 5) := ⟨⟨by decide +kernel, by decide +kernel⟩, List.mem_of_getElem? (i := 205) (by decide +kernel), List.mem_of_getElem? (i := 476) (by decide +kernel), List.mem_of_getElem? (i := 477) (by decide +kernel)⟩
theorem lw_p9 : lw_okq (⟨"BowedPlate$Mover", "strokeOnce", "()V"⟩, 5) := ⟨⟨by decide +kernel, by decide +kernel⟩, List.mem_of_getElem? (i := 205) (by decide +kernel), List.mem_of_getElem? (i := 481) (by decide +kernel), List.mem_of_getElem? (i := 482) (by decide +kernel)⟩
theorem lw_p10 : lw_okq (⟨"BowedPlate$Mover", "shake", "(I)V"⟩, 5) := ⟨⟨by decide +kernel, by decide +kernel⟩, List.mem_of_getElem? (i := 205) (by decide +kernel), List.mem_of_getElem? (i := 485) (by decide +kernel), List.mem_of_getElem? (i := 486) (by decide +kernel)⟩
theorem lw_p11 : lw_okq (⟨"BowedPlate$Figure", "closeLine", "(I)V"⟩, 5) := ⟨⟨by decide +kernel, by decide +kernel⟩, List.mem_of_getElem? (i := 183) (by decide +kernel), List.mem_of_getElem? (i := 560) (by decide +kernel), List.mem_of_getElem? (i := 561) (by decide +kernel)⟩
theorem lw_p12 : lw_okq (⟨"BowedPlate$Figure", "reach", "(II)V"⟩, 5) := ⟨⟨by decide +kernel, by decide +kernel⟩, List.mem_of_getElem? (i := 183) (by decide +kernel), List.mem_of_getElem? (i := 564) (by decide +kernel), List.mem_of_getElem? (i := 565) (by decide +kernel)⟩
theorem lw_p13 : lw_okq (⟨"BowedPlate$Choice", "takesBow", "(I)Z"⟩, 5) := ⟨⟨by decide +kernel, by decide +kernel⟩, List.mem_of_getElem? (i := 158) (by decide +kernel), List.mem_of_getElem? (i := 600) (by decide +kernel), List.mem_of_getElem? (i := 601) (by decide +kernel)⟩
theorem lw_p14 : lw_okq (⟨"BowedPlateModel", "findWays", "()V"⟩, 16) := ⟨⟨by decide +kernel, by decide +kernel⟩, List.mem_of_getElem? (i := 625) (by decide +kernel), List.mem_of_getElem? (i := 631) (by decide +kernel), List.mem_of_getElem? (i := 632) (by decide +kernel)⟩
theorem lw_p15 : lw_okq (⟨"BowedPlateModel", "know", "()V"⟩, 16) := ⟨⟨by decide +kernel, by decide +kernel⟩, List.mem_of_getElem? (i := 625) (by decide +kernel), List.mem_of_getElem? (i := 700) (by decide +kernel), List.mem_of_getElem? (i := 701) (by decide +kernel)⟩
def lw_privs_1 : List (MethodName × Nat) := [(⟨"BowedPlate$Ways", "listWaysOf", "(II)V"⟩, 5), (⟨"BowedPlate", "isClamp", "(I)Z"⟩, 9), (⟨"BowedPlate$Text", "readBowing", "()Z"⟩, 4), (⟨"BowedPlate$Text", "next", "()I"⟩, 4), (⟨"BowedPlate$Text", "readNumber", "(II)I"⟩, 4), (⟨"BowedPlate", "playBowing", "(I)Z"⟩, 9), (⟨"BowedPlate$Choice", "swingAtBow", "(III)I"⟩, 5), (⟨"BowedPlate$Mover", "targetOf", "(II)I"⟩, 5), (⟨"BowedPlate$Mover", "calmerOf", "(III)I"⟩, 5), (⟨"BowedPlate$Mover", "strokeOnce", "()V"⟩, 5), (⟨"BowedPlate$Mover", "shake", "(I)V"⟩, 5), (⟨"BowedPlate$Figure", "closeLine", "(I)V"⟩, 5), (⟨"BowedPlate$Figure", "reach", "(II)V"⟩, 5), (⟨"BowedPlate$Choice", "takesBow", "(I)Z"⟩, 5), (⟨"BowedPlateModel", "findWays", "()V"⟩, 16), (⟨"BowedPlateModel", "know", "()V"⟩, 16)]
theorem lw_r1 : ∀ q ∈ lw_privs_1, lw_okq q := List.forall_mem_cons.mpr ⟨lw_p0, List.forall_mem_cons.mpr ⟨lw_p1, List.forall_mem_cons.mpr ⟨lw_p2, List.forall_mem_cons.mpr ⟨lw_p3, List.forall_mem_cons.mpr ⟨lw_p4, List.forall_mem_cons.mpr ⟨lw_p5, List.forall_mem_cons.mpr ⟨lw_p6, List.forall_mem_cons.mpr ⟨lw_p7, List.forall_mem_cons.mpr ⟨lw_p8, List.forall_mem_cons.mpr ⟨lw_p9, List.forall_mem_cons.mpr ⟨lw_p10, List.forall_mem_cons.mpr ⟨lw_p11, List.forall_mem_cons.mpr ⟨lw_p12, List.forall_mem_cons.mpr ⟨lw_p13, List.forall_mem_cons.mpr ⟨lw_p14, List.forall_mem_cons.mpr ⟨lw_p15, fun _ h => absurd h List.not_mem_nil⟩⟩⟩⟩⟩⟩⟩⟩⟩⟩⟩⟩⟩⟩⟩⟩
theorem lw_p16 : lw_okq (⟨"BowedPlateModel", "allGrains", "()I"⟩, 16) := ⟨⟨by decide +kernel, by decide +kernel⟩, List.mem_of_getElem? (i := 625) (by decide +kernel), List.mem_of_getElem? (i := 708) (by decide +kernel), List.mem_of_getElem? (i := 709) (by decide +kernel)⟩
theorem lw_p17 : lw_okq (⟨"BowedPlateModel", "clampOn", "(I)I"⟩, 16) := ⟨⟨by decide +kernel, by decide +kernel⟩, List.mem_of_getElem? (i := 625) (by decide +kernel), List.mem_of_getElem? (i := 716) (by decide +kernel), List.mem_of_getElem? (i := 717) (by decide +kernel)⟩
theorem lw_p18 : lw_okq (⟨"BowedPlateModel", "waits", "(III)I"⟩, 16) := ⟨⟨by decide +kernel, by decide +kernel⟩, List.mem_of_getElem? (i := 625) (by decide +kernel), List.mem_of_getElem? (i := 735) (by decide +kernel), List.mem_of_getElem? (i := 736) (by decide +kernel)⟩
theorem lw_p19 : lw_okq (⟨"BowedPlateModel", "strikeAt", "(I)V"⟩, 16) := ⟨⟨by decide +kernel, by decide +kernel⟩, List.mem_of_getElem? (i := 625) (by decide +kernel), List.mem_of_getElem? (i := 743) (by decide +kernel), List.mem_of_getElem? (i := 744) (by decide +kernel)⟩
theorem lw_p20 : lw_okq (⟨"BowedPlateModel", "soundsAt", "(I)I"⟩, 16) := ⟨⟨by decide +kernel, by decide +kernel⟩, List.mem_of_getElem? (i := 625) (by decide +kernel), List.mem_of_getElem? (i := 754) (by decide +kernel), List.mem_of_getElem? (i := 755) (by decide +kernel)⟩
theorem lw_p21 : lw_okq (⟨"BowedPlateModel", "canSound", "(II)Z"⟩, 16) := ⟨⟨by decide +kernel, by decide +kernel⟩, List.mem_of_getElem? (i := 625) (by decide +kernel), List.mem_of_getElem? (i := 758) (by decide +kernel), List.mem_of_getElem? (i := 759) (by decide +kernel)⟩
theorem lw_p22 : lw_okq (⟨"BowedPlateModel", "isHeld", "(I)Z"⟩, 16) := ⟨⟨by decide +kernel, by decide +kernel⟩, List.mem_of_getElem? (i := 625) (by decide +kernel), List.mem_of_getElem? (i := 762) (by decide +kernel), List.mem_of_getElem? (i := 763) (by decide +kernel)⟩
theorem lw_p23 : lw_okq (⟨"BowedPlateModel", "swingAt", "(II)I"⟩, 16) := ⟨⟨by decide +kernel, by decide +kernel⟩, List.mem_of_getElem? (i := 625) (by decide +kernel), List.mem_of_getElem? (i := 766) (by decide +kernel), List.mem_of_getElem? (i := 767) (by decide +kernel)⟩
theorem lw_p24 : lw_okq (⟨"BowedPlateModel", "stroke", "(I)V"⟩, 16) := ⟨⟨by decide +kernel, by decide +kernel⟩, List.mem_of_getElem? (i := 625) (by decide +kernel), List.mem_of_getElem? (i := 770) (by decide +kernel), List.mem_of_getElem? (i := 771) (by decide +kernel)⟩
theorem lw_p25 : lw_okq (⟨"BowedPlateModel", "calmest", "(II)I"⟩, 16) := ⟨⟨by decide +kernel, by decide +kernel⟩, List.mem_of_getElem? (i := 625) (by decide +kernel), List.mem_of_getElem? (i := 777) (by decide +kernel), List.mem_of_getElem? (i := 778) (by decide +kernel)⟩
theorem lw_p26 : lw_okq (⟨"BowedPlateModel", "go", "(Z)I"⟩, 16) := ⟨⟨by decide +kernel, by decide +kernel⟩, List.mem_of_getElem? (i := 625) (by decide +kernel), List.mem_of_getElem? (i := 793) (by decide +kernel), List.mem_of_getElem? (i := 794) (by decide +kernel)⟩
theorem lw_p27 : lw_okq (⟨"BowedPlateModel", "number", "(II)I"⟩, 16) := ⟨⟨by decide +kernel, by decide +kernel⟩, List.mem_of_getElem? (i := 625) (by decide +kernel), List.mem_of_getElem? (i := 797) (by decide +kernel), List.mem_of_getElem? (i := 798) (by decide +kernel)⟩
theorem lw_p28 : lw_okq (⟨"BowedPlateModel", "sign", "(II)I"⟩, 16) := ⟨⟨by decide +kernel, by decide +kernel⟩, List.mem_of_getElem? (i := 625) (by decide +kernel), List.mem_of_getElem? (i := 801) (by decide +kernel), List.mem_of_getElem? (i := 802) (by decide +kernel)⟩
theorem lw_p29 : lw_okq (⟨"BowedPlateModel", "isStill", "(II)Z"⟩, 16) := ⟨⟨by decide +kernel, by decide +kernel⟩, List.mem_of_getElem? (i := 625) (by decide +kernel), List.mem_of_getElem? (i := 821) (by decide +kernel), List.mem_of_getElem? (i := 822) (by decide +kernel)⟩
theorem lw_p30 : lw_okq (⟨"BowedPlateModel", "noteOf", "(I)I"⟩, 16) := ⟨⟨by decide +kernel, by decide +kernel⟩, List.mem_of_getElem? (i := 625) (by decide +kernel), List.mem_of_getElem? (i := 832) (by decide +kernel), List.mem_of_getElem? (i := 833) (by decide +kernel)⟩
theorem lw_p31 : lw_okq (⟨"BowedPlateModel", "still", "(II)I"⟩, 16) := ⟨⟨by decide +kernel, by decide +kernel⟩, List.mem_of_getElem? (i := 625) (by decide +kernel), List.mem_of_getElem? (i := 836) (by decide +kernel), List.mem_of_getElem? (i := 837) (by decide +kernel)⟩
def lw_privs_2 : List (MethodName × Nat) := [(⟨"BowedPlateModel", "allGrains", "()I"⟩, 16), (⟨"BowedPlateModel", "clampOn", "(I)I"⟩, 16), (⟨"BowedPlateModel", "waits", "(III)I"⟩, 16), (⟨"BowedPlateModel", "strikeAt", "(I)V"⟩, 16), (⟨"BowedPlateModel", "soundsAt", "(I)I"⟩, 16), (⟨"BowedPlateModel", "canSound", "(II)Z"⟩, 16), (⟨"BowedPlateModel", "isHeld", "(I)Z"⟩, 16), (⟨"BowedPlateModel", "swingAt", "(II)I"⟩, 16), (⟨"BowedPlateModel", "stroke", "(I)V"⟩, 16), (⟨"BowedPlateModel", "calmest", "(II)I"⟩, 16), (⟨"BowedPlateModel", "go", "(Z)I"⟩, 16), (⟨"BowedPlateModel", "number", "(II)I"⟩, 16), (⟨"BowedPlateModel", "sign", "(II)I"⟩, 16), (⟨"BowedPlateModel", "isStill", "(II)Z"⟩, 16), (⟨"BowedPlateModel", "noteOf", "(I)I"⟩, 16), (⟨"BowedPlateModel", "still", "(II)I"⟩, 16)]
theorem lw_r2 : ∀ q ∈ lw_privs_2, lw_okq q := List.forall_mem_cons.mpr ⟨lw_p16, List.forall_mem_cons.mpr ⟨lw_p17, List.forall_mem_cons.mpr ⟨lw_p18, List.forall_mem_cons.mpr ⟨lw_p19, List.forall_mem_cons.mpr ⟨lw_p20, List.forall_mem_cons.mpr ⟨lw_p21, List.forall_mem_cons.mpr ⟨lw_p22, List.forall_mem_cons.mpr ⟨lw_p23, List.forall_mem_cons.mpr ⟨lw_p24, List.forall_mem_cons.mpr ⟨lw_p25, List.forall_mem_cons.mpr ⟨lw_p26, List.forall_mem_cons.mpr ⟨lw_p27, List.forall_mem_cons.mpr ⟨lw_p28, List.forall_mem_cons.mpr ⟨lw_p29, List.forall_mem_cons.mpr ⟨lw_p30, List.forall_mem_cons.mpr ⟨lw_p31, fun _ h => absurd h List.not_mem_nil⟩⟩⟩⟩⟩⟩⟩⟩⟩⟩⟩⟩⟩⟩⟩⟩
theorem lw_p32 : lw_okq (⟨"BowedPlateModel", "lines", "(I)I"⟩, 16) := ⟨⟨by decide +kernel, by decide +kernel⟩, List.mem_of_getElem? (i := 625) (by decide +kernel), List.mem_of_getElem? (i := 840) (by decide +kernel), List.mem_of_getElem? (i := 841) (by decide +kernel)⟩
theorem lw_p33 : lw_okq (⟨"BowedPlateModel", "meet", "(I)V"⟩, 16) := ⟨⟨by decide +kernel, by decide +kernel⟩, List.mem_of_getElem? (i := 625) (by decide +kernel), List.mem_of_getElem? (i := 844) (by decide +kernel), List.mem_of_getElem? (i := 845) (by decide +kernel)⟩
theorem lw_p34 : lw_okq (⟨"BowedPlateModel", "isPossible", "(I)Z"⟩, 16) := ⟨⟨by decide +kernel, by decide +kernel⟩, List.mem_of_getElem? (i := 625) (by decide +kernel), List.mem_of_getElem? (i := 864) (by decide +kernel), List.mem_of_getElem? (i := 865) (by decide +kernel)⟩
theorem lw_p35 : lw_okq (⟨"BowedPlateModel", "possibles", "()I"⟩, 16) := ⟨⟨by decide +kernel, by decide +kernel⟩, List.mem_of_getElem? (i := 625) (by decide +kernel), List.mem_of_getElem? (i := 880) (by decide +kernel), List.mem_of_getElem? (i := 881) (by decide +kernel)⟩
theorem lw_p36 : lw_okq (⟨"BowedPlateModel", "mostGrains", "()I"⟩, 16) := ⟨⟨by decide +kernel, by decide +kernel⟩, List.mem_of_getElem? (i := 625) (by decide +kernel), List.mem_of_getElem? (i := 884) (by decide +kernel), List.mem_of_getElem? (i := 885) (by decide +kernel)⟩
def lw_privs_3 : List (MethodName × Nat) := [(⟨"BowedPlateModel", "lines", "(I)I"⟩, 16), (⟨"BowedPlateModel", "meet", "(I)V"⟩, 16), (⟨"BowedPlateModel", "isPossible", "(I)Z"⟩, 16), (⟨"BowedPlateModel", "possibles", "()I"⟩, 16), (⟨"BowedPlateModel", "mostGrains", "()I"⟩, 16)]
theorem lw_r3 : ∀ q ∈ lw_privs_3, lw_okq q := List.forall_mem_cons.mpr ⟨lw_p32, List.forall_mem_cons.mpr ⟨lw_p33, List.forall_mem_cons.mpr ⟨lw_p34, List.forall_mem_cons.mpr ⟨lw_p35, List.forall_mem_cons.mpr ⟨lw_p36, fun _ h => absurd h List.not_mem_nil⟩⟩⟩⟩⟩
def lw_privs : List (MethodName × Nat) := lw_privs_1 ++ (lw_privs_2 ++ (lw_privs_3))
def lw_tbl : List Cond := k2_sels lw_privs ++ tables_1
theorem lw_privs_ok : ∀ q ∈ lw_privs, lw_okq q := by
  show ∀ q ∈ lw_privs_1 ++ (lw_privs_2 ++ (lw_privs_3)), lw_okq q
  exact List.forall_mem_append.mpr ⟨lw_r1, List.forall_mem_append.mpr ⟨lw_r2, lw_r3⟩⟩
-- ===== end of PART A; then your names; then what follows =====
end
section
/-! ===== BEGIN words of one list among another's, by their places ===== -/
theorem goodIn_r {big : List Cond} (ws : List Cond) (ps : List Nat) (hp : ws = ps.filterMap (fun i => big[i]?)) (h : ws.all goodWord = true) : GoodIn big ws := by
  intro w hw
  have h1 := List.all_eq_true.mp h w hw
  rw [hp] at hw
  obtain ⟨i, -, hi⟩ := List.mem_filterMap.mp hw
  have hm : w ∈ big := by first | exact List.mem_of_getElem? hi | exact List.getElem?_mem hi
  exact ⟨hm, good_of_word h1⟩
theorem goodIn_app {big a b : List Cond} (ha : GoodIn big a) (hb : GoodIn big b) : GoodIn big (a ++ b) := fun w h => (List.mem_append.mp h).elim (ha w) (hb w)
theorem goodIn_ca {big a b : List Cond} {c : Cond} (ha : GoodIn big (c :: a)) (hb : GoodIn big b) : GoodIn big (c :: (a ++ b)) := fun w h => (List.mem_cons.mp h).elim (fun e => ha w (List.mem_cons.mpr (Or.inl e))) (fun h => (List.mem_append.mp h).elim (fun h => ha w (List.mem_cons.mpr (Or.inr h))) (hb w))
theorem goodIn_sub {big ws : List Cond} (hm : ∀ w ∈ ws, w ∈ big) (h : ws.all goodWord = true) : GoodIn big ws := fun w hw => ⟨hm w hw, good_of_word (List.all_eq_true.mp h w hw)⟩
/-! ===== END ===== -/

/-! ===== BEGIN printed: names, fields, word lists, decode rows ===== -/
def RX0 : String := "BowedPlate$Choice"
def TX0 : u_T := fun k => match k with
  | 0 => ("BowedPlate$Choice", "ways", "LBowedPlate$Ways;", true)
  | 1 => ("BowedPlate$Choice", "now", "LBowedPlate$State;", true)
  | 2 => ("BowedPlate$Choice", "possibleWay", "[I", true)
  | 3 => ("BowedPlate$Choice", "possibleWays", "I", false)
  | _ => ("BowedPlate$Choice", "isTaken", "[Z", true)
def tyX0 : Nat → FieldType := fun k => match k with
  | 0 => .object "BowedPlate$Ways"
  | 1 => .object "BowedPlate$State"
  | 2 => .array .int
  | 3 => .int
  | _ => .array .boolean
abbrev wsX00 : List Cond := u_ws RX0 TX0 5
theorem nmX0 : ∀ a, a < 5 → ∀ b, b < 5 → a ≠ b → (TX0 a).2.1 ≠ (TX0 b).2.1 := by decide +kernel
theorem tyX0_ok : ∀ k, k < 5 → parseFieldDescriptor (TX0 k).2.2.1 = some (tyX0 k) := by decide +kernel
abbrev cX0_init : ByteArray := prog_2_method_1_code
def yX0_init : MethodName := ⟨RX0, "<init>", "(LBowedPlate$Ways;LBowedPlate$State;)V"⟩
abbrev cX0_clampsAllow : ByteArray := prog_2_method_2_code
def yX0_clampsAllow : MethodName := ⟨RX0, "clampsAllow", "(I)Z"⟩
abbrev cX0_bowAllows : ByteArray := prog_2_method_3_code
def yX0_bowAllows : MethodName := ⟨RX0, "bowAllows", "(III)Z"⟩
abbrev cX0_swingAtBow : ByteArray := prog_2_method_4_code
def yX0_swingAtBow : MethodName := ⟨RX0, "swingAtBow", "(III)I"⟩
abbrev cX0_wayFor : ByteArray := prog_2_method_5_code
def yX0_wayFor : MethodName := ⟨RX0, "wayFor", "(II)I"⟩
abbrev cX0_reasonOf : ByteArray := prog_2_method_6_code
def yX0_reasonOf : MethodName := ⟨RX0, "reasonOf", "(III)I"⟩
abbrev cX0_findPossible : ByteArray := prog_2_method_7_code
def yX0_findPossible : MethodName := ⟨RX0, "findPossible", "()V"⟩
abbrev cX0_takesBow : ByteArray := prog_2_method_8_code
def yX0_takesBow : MethodName := ⟨RX0, "takesBow", "(I)Z"⟩
def RX1 : String := "BowedPlate$Figure"
def TX1 : u_T := fun k => match k with
  | 0 => ("BowedPlate$Figure", "ways", "LBowedPlate$Ways;", true)
  | 1 => ("BowedPlate$Figure", "now", "LBowedPlate$State;", true)
  | 2 => ("BowedPlate$Figure", "isOpen", "[Z", true)
  | 3 => ("BowedPlate$Figure", "reached", "[I", true)
  | _ => ("BowedPlate$Figure", "reaches", "I", false)
def tyX1 : Nat → FieldType := fun k => match k with
  | 0 => .object "BowedPlate$Ways"
  | 1 => .object "BowedPlate$State"
  | 2 => .array .boolean
  | 3 => .array .int
  | _ => .int
abbrev wsX10 : List Cond := u_ws RX1 TX1 5
theorem nmX1 : ∀ a, a < 5 → ∀ b, b < 5 → a ≠ b → (TX1 a).2.1 ≠ (TX1 b).2.1 := by decide +kernel
theorem tyX1_ok : ∀ k, k < 5 → parseFieldDescriptor (TX1 k).2.2.1 = some (tyX1 k) := by decide +kernel
abbrev cX1_init : ByteArray := prog_3_method_1_code
def yX1_init : MethodName := ⟨RX1, "<init>", "(LBowedPlate$Ways;LBowedPlate$State;)V"⟩
abbrev cX1_isStill : ByteArray := prog_3_method_2_code
def yX1_isStill : MethodName := ⟨RX1, "isStill", "(III)Z"⟩
abbrev cX1_stillPlaces : ByteArray := prog_3_method_3_code
def yX1_stillPlaces : MethodName := ⟨RX1, "stillPlaces", "(I)I"⟩
abbrev cX1_grainsOnLines : ByteArray := prog_3_method_4_code
def yX1_grainsOnLines : MethodName := ⟨RX1, "grainsOnLines", "(I)I"⟩
abbrev cX1_lines : ByteArray := prog_3_method_5_code
def yX1_lines : MethodName := ⟨RX1, "lines", "(I)I"⟩
abbrev cX1_closeLine : ByteArray := prog_3_method_6_code
def yX1_closeLine : MethodName := ⟨RX1, "closeLine", "(I)V"⟩
abbrev cX1_reach : ByteArray := prog_3_method_7_code
def yX1_reach : MethodName := ⟨RX1, "reach", "(II)V"⟩
def RX2 : String := "BowedPlate$History"
def TX2 : u_T := fun k => match k with
  | 0 => ("BowedPlate$History", "states", "[LBowedPlate$State;", true)
  | 1 => ("BowedPlate$History", "oldest", "I", false)
  | _ => ("BowedPlate$History", "held", "I", false)
def tyX2 : Nat → FieldType := fun k => match k with
  | 0 => .array (.object "BowedPlate$State")
  | 1 => .int
  | _ => .int
abbrev wsX20 : List Cond := u_ws RX2 TX2 3
theorem nmX2 : ∀ a, a < 3 → ∀ b, b < 3 → a ≠ b → (TX2 a).2.1 ≠ (TX2 b).2.1 := by decide +kernel
theorem tyX2_ok : ∀ k, k < 3 → parseFieldDescriptor (TX2 k).2.2.1 = some (tyX2 k) := by decide +kernel
abbrev cX2_init : ByteArray := prog_4_method_1_code
def yX2_init : MethodName := ⟨RX2, "<init>", "()V"⟩
abbrev cX2_record : ByteArray := prog_4_method_2_code
def yX2_record : MethodName := ⟨RX2, "record", "(LBowedPlate$State;)V"⟩
abbrev cX2_takeLatest : ByteArray := prog_4_method_3_code
def yX2_takeLatest : MethodName := ⟨RX2, "takeLatest", "(LBowedPlate$State;)V"⟩
def RX3 : String := "BowedPlate$Mover"
def TX3 : u_T := fun k => match k with
  | 0 => ("BowedPlate$Mover", "ways", "LBowedPlate$Ways;", true)
  | 1 => ("BowedPlate$Mover", "now", "LBowedPlate$State;", true)
  | 2 => ("BowedPlate$Mover", "swings", "[I", true)
  | 3 => ("BowedPlate$Mover", "targets", "[I", true)
  | _ => ("BowedPlate$Mover", "arrivals", "[I", true)
def tyX3 : Nat → FieldType := fun k => match k with
  | 0 => .object "BowedPlate$Ways"
  | 1 => .object "BowedPlate$State"
  | 2 => .array .int
  | 3 => .array .int
  | _ => .array .int
abbrev wsX30 : List Cond := u_ws RX3 TX3 5
theorem nmX3 : ∀ a, a < 5 → ∀ b, b < 5 → a ≠ b → (TX3 a).2.1 ≠ (TX3 b).2.1 := by decide +kernel
theorem tyX3_ok : ∀ k, k < 5 → parseFieldDescriptor (TX3 k).2.2.1 = some (tyX3 k) := by decide +kernel
abbrev cX3_init : ByteArray := prog_5_method_1_code
def yX3_init : MethodName := ⟨RX3, "<init>", "(LBowedPlate$Ways;LBowedPlate$State;)V"⟩
abbrev cX3_stroke : ByteArray := prog_5_method_2_code
def yX3_stroke : MethodName := ⟨RX3, "stroke", "(II)V"⟩
abbrev cX3_targetOf : ByteArray := prog_5_method_3_code
def yX3_targetOf : MethodName := ⟨RX3, "targetOf", "(II)I"⟩
abbrev cX3_calmerOf : ByteArray := prog_5_method_4_code
def yX3_calmerOf : MethodName := ⟨RX3, "calmerOf", "(III)I"⟩
abbrev cX3_strokeOnce : ByteArray := prog_5_method_5_code
def yX3_strokeOnce : MethodName := ⟨RX3, "strokeOnce", "()V"⟩
abbrev cX3_shake : ByteArray := prog_5_method_6_code
def yX3_shake : MethodName := ⟨RX3, "shake", "(I)V"⟩
abbrev cX3_isAtEdge : ByteArray := prog_5_method_7_code
def yX3_isAtEdge : MethodName := ⟨RX3, "isAtEdge", "(I)Z"⟩
def RX4 : String := "BowedPlate$Piece"
def TX4 : u_T := fun k => match k with
  | 0 => ("BowedPlate$Piece", "limit", "I", true)
  | 1 => ("BowedPlate$Piece", "sides", "[I", true)
  | 2 => ("BowedPlate$Piece", "alongs", "[I", true)
  | 3 => ("BowedPlate$Piece", "strokes", "[I", true)
  | _ => ("BowedPlate$Piece", "size", "I", false)
def tyX4 : Nat → FieldType := fun k => match k with
  | 0 => .int
  | 1 => .array .int
  | 2 => .array .int
  | 3 => .array .int
  | _ => .int
abbrev wsX40 : List Cond := u_ws RX4 TX4 5
theorem nmX4 : ∀ a, a < 5 → ∀ b, b < 5 → a ≠ b → (TX4 a).2.1 ≠ (TX4 b).2.1 := by decide +kernel
theorem tyX4_ok : ∀ k, k < 5 → parseFieldDescriptor (TX4 k).2.2.1 = some (tyX4 k) := by decide +kernel
abbrev cX4_init : ByteArray := prog_6_method_1_code
def yX4_init : MethodName := ⟨RX4, "<init>", "(I)V"⟩
abbrev cX4_append : ByteArray := prog_6_method_2_code
def yX4_append : MethodName := ⟨RX4, "append", "(III)V"⟩
abbrev cX4_appendAll : ByteArray := prog_6_method_3_code
def yX4_appendAll : MethodName := ⟨RX4, "appendAll", "(LBowedPlate$Piece;)V"⟩
abbrev cX4_copyFrom : ByteArray := prog_6_method_4_code
def yX4_copyFrom : MethodName := ⟨RX4, "copyFrom", "(LBowedPlate$Piece;)V"⟩
abbrev cX4_dropFirst : ByteArray := prog_6_method_5_code
def yX4_dropFirst : MethodName := ⟨RX4, "dropFirst", "(I)V"⟩
abbrev cX4_sizeAt : ByteArray := prog_6_method_6_code
def yX4_sizeAt : MethodName := ⟨RX4, "sizeAt", "(I)I"⟩
abbrev cX4_dropSide : ByteArray := prog_6_method_7_code
def yX4_dropSide : MethodName := ⟨RX4, "dropSide", "(I)I"⟩
def RX5 : String := "BowedPlate$State"
def TX5 : u_T := fun k => match k with
  | 0 => ("BowedPlate$State", "grains", "[I", true)
  | 1 => ("BowedPlate$State", "clampColumns", "[I", true)
  | 2 => ("BowedPlate$State", "clampRows", "[I", true)
  | 3 => ("BowedPlate$State", "clamps", "I", false)
  | 4 => ("BowedPlate$State", "settings", "[I", true)
  | 5 => ("BowedPlate$State", "piece", "LBowedPlate$Piece;", true)
  | 6 => ("BowedPlate$State", "lastWay", "I", false)
  | 7 => ("BowedPlate$State", "strewn", "I", false)
  | 8 => ("BowedPlate$State", "swept", "I", false)
  | 9 => ("BowedPlate$State", "fallen", "I", false)
  | 10 => ("BowedPlate$State", "strokes", "I", false)
  | _ => ("BowedPlate$State", "mutes", "I", false)
def tyX5 : Nat → FieldType := fun k => match k with
  | 0 => .array .int
  | 1 => .array .int
  | 2 => .array .int
  | 3 => .int
  | 4 => .array .int
  | 5 => .object "BowedPlate$Piece"
  | 6 => .int
  | 7 => .int
  | 8 => .int
  | 9 => .int
  | 10 => .int
  | _ => .int
abbrev wsX50 : List Cond := u_ws RX5 TX5 12
theorem nmX5 : ∀ a, a < 12 → ∀ b, b < 12 → a ≠ b → (TX5 a).2.1 ≠ (TX5 b).2.1 := by decide +kernel
theorem tyX5_ok : ∀ k, k < 12 → parseFieldDescriptor (TX5 k).2.2.1 = some (tyX5 k) := by decide +kernel
abbrev cX5_init : ByteArray := prog_7_method_1_code
def yX5_init : MethodName := ⟨RX5, "<init>", "()V"⟩
abbrev cX5_copyFrom : ByteArray := prog_7_method_2_code
def yX5_copyFrom : MethodName := ⟨RX5, "copyFrom", "(LBowedPlate$State;)V"⟩
abbrev cX5_coverWith : ByteArray := prog_7_method_3_code
def yX5_coverWith : MethodName := ⟨RX5, "coverWith", "(I)V"⟩
abbrev cX5_allGrains : ByteArray := prog_7_method_4_code
def yX5_allGrains : MethodName := ⟨RX5, "allGrains", "()I"⟩
abbrev cX5_mostGrains : ByteArray := prog_7_method_5_code
def yX5_mostGrains : MethodName := ⟨RX5, "mostGrains", "()I"⟩
abbrev cX5_clampOn : ByteArray := prog_7_method_6_code
def yX5_clampOn : MethodName := ⟨RX5, "clampOn", "(II)I"⟩
abbrev cX5_dropClamp : ByteArray := prog_7_method_7_code
def yX5_dropClamp : MethodName := ⟨RX5, "dropClamp", "(I)V"⟩
def RX6 : String := "BowedPlate$Text"
def TX6 : u_T := fun k => match k with
  | 0 => ("BowedPlate$Text", "characters", "[C", true)
  | 1 => ("BowedPlate$Text", "length", "I", false)
  | 2 => ("BowedPlate$Text", "piece", "LBowedPlate$Piece;", true)
  | _ => ("BowedPlate$Text", "cursor", "I", false)
def tyX6 : Nat → FieldType := fun k => match k with
  | 0 => .array .char
  | 1 => .int
  | 2 => .object "BowedPlate$Piece"
  | _ => .int
abbrev wsX60 : List Cond := u_ws RX6 TX6 4
theorem nmX6 : ∀ a, a < 4 → ∀ b, b < 4 → a ≠ b → (TX6 a).2.1 ≠ (TX6 b).2.1 := by decide +kernel
theorem tyX6_ok : ∀ k, k < 4 → parseFieldDescriptor (TX6 k).2.2.1 = some (tyX6 k) := by decide +kernel
abbrev cX6_init : ByteArray := prog_8_method_1_code
def yX6_init : MethodName := ⟨RX6, "<init>", "()V"⟩
abbrev cX6_append : ByteArray := prog_8_method_2_code
def yX6_append : MethodName := ⟨RX6, "append", "(C)V"⟩
abbrev cX6_read : ByteArray := prog_8_method_3_code
def yX6_read : MethodName := ⟨RX6, "read", "()Z"⟩
abbrev cX6_fault : ByteArray := prog_8_method_4_code
def yX6_fault : MethodName := ⟨RX6, "fault", "()I"⟩
abbrev cX6_next : ByteArray := prog_8_method_5_code
def yX6_next : MethodName := ⟨RX6, "next", "()I"⟩
abbrev cX6_readBowing : ByteArray := prog_8_method_6_code
def yX6_readBowing : MethodName := ⟨RX6, "readBowing", "()Z"⟩
abbrev cX6_sideOf : ByteArray := prog_8_method_7_code
def yX6_sideOf : MethodName := ⟨RX6, "sideOf", "(I)I"⟩
abbrev cX6_digitOf : ByteArray := prog_8_method_8_code
def yX6_digitOf : MethodName := ⟨RX6, "digitOf", "(I)I"⟩
abbrev cX6_readNumber : ByteArray := prog_8_method_9_code
def yX6_readNumber : MethodName := ⟨RX6, "readNumber", "(II)I"⟩
def RX7 : String := "BowedPlate$Ways"
def TX7 : u_T := fun k => match k with
  | 0 => ("BowedPlate$Ways", "lesser", "[I", true)
  | 1 => ("BowedPlate$Ways", "greater", "[I", true)
  | 2 => ("BowedPlate$Ways", "sign", "[I", true)
  | 3 => ("BowedPlate$Ways", "heights", "[I", true)
  | _ => ("BowedPlate$Ways", "listed", "I", false)
def tyX7 : Nat → FieldType := fun k => match k with
  | 0 => .array .int
  | 1 => .array .int
  | 2 => .array .int
  | 3 => .array .int
  | _ => .int
abbrev wsX70 : List Cond := u_ws RX7 TX7 5
theorem nmX7 : ∀ a, a < 5 → ∀ b, b < 5 → a ≠ b → (TX7 a).2.1 ≠ (TX7 b).2.1 := by decide +kernel
theorem tyX7_ok : ∀ k, k < 5 → parseFieldDescriptor (TX7 k).2.2.1 = some (tyX7 k) := by decide +kernel
abbrev cX7_init : ByteArray := prog_9_method_1_code
def yX7_init : MethodName := ⟨RX7, "<init>", "()V"⟩
abbrev cX7_waveHeight : ByteArray := prog_9_method_2_code
def yX7_waveHeight : MethodName := ⟨RX7, "waveHeight", "(II)I"⟩
abbrev cX7_listWaysOf : ByteArray := prog_9_method_3_code
def yX7_listWaysOf : MethodName := ⟨RX7, "listWaysOf", "(II)V"⟩
abbrev cX7_noteOf : ByteArray := prog_9_method_4_code
def yX7_noteOf : MethodName := ⟨RX7, "noteOf", "(I)I"⟩
abbrev cX7_swingAt : ByteArray := prog_9_method_5_code
def yX7_swingAt : MethodName := ⟨RX7, "swingAt", "(III)I"⟩
def RX8 : String := "BowedPlate"
def TX8 : u_T := fun k => match k with
  | 0 => ("BowedPlate", "ways", "LBowedPlate$Ways;", true)
  | 1 => ("BowedPlate", "now", "LBowedPlate$State;", true)
  | 2 => ("BowedPlate", "choice", "LBowedPlate$Choice;", true)
  | 3 => ("BowedPlate", "figure", "LBowedPlate$Figure;", true)
  | 4 => ("BowedPlate", "mover", "LBowedPlate$Mover;", true)
  | 5 => ("BowedPlate", "text", "LBowedPlate$Text;", true)
  | 6 => ("BowedPlate", "history", "LBowedPlate$History;", true)
  | 7 => ("BowedPlate", "snapshot", "LBowedPlate$State;", true)
  | _ => ("BowedPlate", "hasSnapshot", "Z", false)
def tyX8 : Nat → FieldType := fun k => match k with
  | 0 => .object "BowedPlate$Ways"
  | 1 => .object "BowedPlate$State"
  | 2 => .object "BowedPlate$Choice"
  | 3 => .object "BowedPlate$Figure"
  | 4 => .object "BowedPlate$Mover"
  | 5 => .object "BowedPlate$Text"
  | 6 => .object "BowedPlate$History"
  | 7 => .object "BowedPlate$State"
  | _ => .boolean
abbrev wsX80 : List Cond := u_ws RX8 TX8 9
theorem nmX8 : ∀ a, a < 9 → ∀ b, b < 9 → a ≠ b → (TX8 a).2.1 ≠ (TX8 b).2.1 := by decide +kernel
theorem tyX8_ok : ∀ k, k < 9 → parseFieldDescriptor (TX8 k).2.2.1 = some (tyX8 k) := by decide +kernel
abbrev cX8_init : ByteArray := prog_1_method_1_code
def yX8_init : MethodName := ⟨RX8, "<init>", "()V"⟩
abbrev cX8_strew : ByteArray := prog_1_method_2_code
def yX8_strew : MethodName := ⟨RX8, "strew", "(III)I"⟩
abbrev cX8_sweep : ByteArray := prog_1_method_3_code
def yX8_sweep : MethodName := ⟨RX8, "sweep", "(I)I"⟩
abbrev cX8_clamp : ByteArray := prog_1_method_4_code
def yX8_clamp : MethodName := ⟨RX8, "clamp", "(II)I"⟩
abbrev cX8_unclamp : ByteArray := prog_1_method_5_code
def yX8_unclamp : MethodName := ⟨RX8, "unclamp", "(I)I"⟩
abbrev cX8_set : ByteArray := prog_1_method_6_code
def yX8_set : MethodName := ⟨RX8, "set", "(II)I"⟩
abbrev cX8_bow : ByteArray := prog_1_method_7_code
def yX8_bow : MethodName := ⟨RX8, "bow", "(III)I"⟩
abbrev cX8_bowAll : ByteArray := prog_1_method_8_code
def yX8_bowAll : MethodName := ⟨RX8, "bowAll", "()I"⟩
abbrev cX8_strike : ByteArray := prog_1_method_9_code
def yX8_strike : MethodName := ⟨RX8, "strike", "(I)I"⟩
abbrev cX8_play : ByteArray := prog_1_method_10_code
def yX8_play : MethodName := ⟨RX8, "play", "(I)I"⟩
abbrev cX8_type : ByteArray := prog_1_method_11_code
def yX8_type : MethodName := ⟨RX8, "type", "(C)I"⟩
abbrev cX8_clearText : ByteArray := prog_1_method_12_code
def yX8_clearText : MethodName := ⟨RX8, "clearText", "()I"⟩
abbrev cX8_undo : ByteArray := prog_1_method_13_code
def yX8_undo : MethodName := ⟨RX8, "undo", "()I"⟩
abbrev cX8_keep : ByteArray := prog_1_method_14_code
def yX8_keep : MethodName := ⟨RX8, "keep", "()I"⟩
abbrev cX8_restore : ByteArray := prog_1_method_15_code
def yX8_restore : MethodName := ⟨RX8, "restore", "()I"⟩
abbrev cX8_place : ByteArray := prog_1_method_16_code
def yX8_place : MethodName := ⟨RX8, "place", "(III)I"⟩
abbrev cX8_way : ByteArray := prog_1_method_17_code
def yX8_way : MethodName := ⟨RX8, "way", "(II)I"⟩
abbrev cX8_swing : ByteArray := prog_1_method_18_code
def yX8_swing : MethodName := ⟨RX8, "swing", "(III)I"⟩
abbrev cX8_sounds : ByteArray := prog_1_method_19_code
def yX8_sounds : MethodName := ⟨RX8, "sounds", "(II)I"⟩
abbrev cX8_why : ByteArray := prog_1_method_20_code
def yX8_why : MethodName := ⟨RX8, "why", "(III)I"⟩
abbrev cX8_possible : ByteArray := prog_1_method_21_code
def yX8_possible : MethodName := ⟨RX8, "possible", "(I)I"⟩
abbrev cX8_waiting : ByteArray := prog_1_method_22_code
def yX8_waiting : MethodName := ⟨RX8, "waiting", "(II)I"⟩
abbrev cX8_sand : ByteArray := prog_1_method_23_code
def yX8_sand : MethodName := ⟨RX8, "sand", "(ZI)I"⟩
abbrev cX8_count : ByteArray := prog_1_method_24_code
def yX8_count : MethodName := ⟨RX8, "count", "(I)I"⟩
abbrev cX8_clampAt : ByteArray := prog_1_method_25_code
def yX8_clampAt : MethodName := ⟨RX8, "clampAt", "(IZ)I"⟩
abbrev cX8_playBowing : ByteArray := prog_1_method_26_code
def yX8_playBowing : MethodName := ⟨RX8, "playBowing", "(I)Z"⟩
abbrev cX8_isClamp : ByteArray := prog_1_method_27_code
def yX8_isClamp : MethodName := ⟨RX8, "isClamp", "(I)Z"⟩
abbrev cX8_isLine : ByteArray := prog_1_method_28_code
def yX8_isLine : MethodName := ⟨RX8, "isLine", "(I)Z"⟩
abbrev cX8_isPlace : ByteArray := prog_1_method_29_code
def yX8_isPlace : MethodName := ⟨RX8, "isPlace", "(II)Z"⟩
abbrev cX8_isWay : ByteArray := prog_1_method_30_code
def yX8_isWay : MethodName := ⟨RX8, "isWay", "(I)Z"⟩
abbrev cX8_isBow : ByteArray := prog_1_method_31_code
def yX8_isBow : MethodName := ⟨RX8, "isBow", "(II)Z"⟩
abbrev cX8_placeOf : ByteArray := prog_1_method_32_code
def yX8_placeOf : MethodName := ⟨RX8, "placeOf", "(II)I"⟩
abbrev cX8_columnOf : ByteArray := prog_1_method_33_code
def yX8_columnOf : MethodName := ⟨RX8, "columnOf", "(I)I"⟩
abbrev cX8_rowOf : ByteArray := prog_1_method_34_code
def yX8_rowOf : MethodName := ⟨RX8, "rowOf", "(I)I"⟩
abbrev cX8_orNone : ByteArray := prog_1_method_35_code
def yX8_orNone : MethodName := ⟨RX8, "orNone", "(I)I"⟩
abbrev cX8_asNumber : ByteArray := prog_1_method_36_code
def yX8_asNumber : MethodName := ⟨RX8, "asNumber", "(Z)I"⟩
def RX9 : String := "BowedPlateModel"
def TX9 : u_T := fun k => match k with
  | 0 => ("BowedPlateModel", "low", "[I", true)
  | 1 => ("BowedPlateModel", "high", "[I", true)
  | 2 => ("BowedPlateModel", "minus", "[I", true)
  | 3 => ("BowedPlateModel", "swings", "[I", true)
  | 4 => ("BowedPlateModel", "s", "[I", true)
  | 5 => ("BowedPlateModel", "before", "[I", true)
  | 6 => ("BowedPlateModel", "known", "I", false)
  | 7 => ("BowedPlateModel", "kept", "[I", true)
  | 8 => ("BowedPlateModel", "isKept", "Z", false)
  | 9 => ("BowedPlateModel", "text", "[I", true)
  | 10 => ("BowedPlateModel", "typed", "I", false)
  | 11 => ("BowedPlateModel", "more", "[I", true)
  | 12 => ("BowedPlateModel", "at", "I", false)
  | 13 => ("BowedPlateModel", "isWrong", "Z", false)
  | 14 => ("BowedPlateModel", "isMet", "[Z", true)
  | _ => ("BowedPlateModel", "row", "[I", true)
def tyX9 : Nat → FieldType := fun k => match k with
  | 0 => .array .int
  | 1 => .array .int
  | 2 => .array .int
  | 3 => .array .int
  | 4 => .array .int
  | 5 => .array .int
  | 6 => .int
  | 7 => .array .int
  | 8 => .boolean
  | 9 => .array .int
  | 10 => .int
  | 11 => .array .int
  | 12 => .int
  | 13 => .boolean
  | 14 => .array .boolean
  | _ => .array .int
abbrev wsX90 : List Cond := u_ws RX9 TX9 16
theorem nmX9 : ∀ a, a < 16 → ∀ b, b < 16 → a ≠ b → (TX9 a).2.1 ≠ (TX9 b).2.1 := by decide +kernel
theorem tyX9_ok : ∀ k, k < 16 → parseFieldDescriptor (TX9 k).2.2.1 = some (tyX9 k) := by decide +kernel
abbrev cX9_init : ByteArray := prog_11_method_1_code
def yX9_init : MethodName := ⟨RX9, "<init>", "()V"⟩
abbrev cX9_in : ByteArray := prog_11_method_3_code
def yX9_in : MethodName := ⟨RX9, "in", "(III)Z"⟩
abbrev cX9_wave : ByteArray := prog_11_method_4_code
def yX9_wave : MethodName := ⟨RX9, "wave", "(II)I"⟩
abbrev cX9_size : ByteArray := prog_11_method_5_code
def yX9_size : MethodName := ⟨RX9, "size", "(I)I"⟩
abbrev cX9_noteOf : ByteArray := prog_11_method_6_code
def yX9_noteOf : MethodName := ⟨RX9, "noteOf", "(I)I"⟩
abbrev cX9_findWays : ByteArray := prog_11_method_7_code
def yX9_findWays : MethodName := ⟨RX9, "findWays", "()V"⟩
abbrev cX9_swingAt : ByteArray := prog_11_method_8_code
def yX9_swingAt : MethodName := ⟨RX9, "swingAt", "(II)I"⟩
abbrev cX9_isOn : ByteArray := prog_11_method_9_code
def yX9_isOn : MethodName := ⟨RX9, "isOn", "(II)Z"⟩
abbrev cX9_isWay : ByteArray := prog_11_method_10_code
def yX9_isWay : MethodName := ⟨RX9, "isWay", "(I)Z"⟩
abbrev cX9_isBow : ByteArray := prog_11_method_11_code
def yX9_isBow : MethodName := ⟨RX9, "isBow", "(II)Z"⟩
abbrev cX9_know : ByteArray := prog_11_method_12_code
def yX9_know : MethodName := ⟨RX9, "know", "()V"⟩
abbrev cX9_bowPlace : ByteArray := prog_11_method_13_code
def yX9_bowPlace : MethodName := ⟨RX9, "bowPlace", "(II)I"⟩
abbrev cX9_isHeld : ByteArray := prog_11_method_14_code
def yX9_isHeld : MethodName := ⟨RX9, "isHeld", "(I)Z"⟩
abbrev cX9_canSound : ByteArray := prog_11_method_15_code
def yX9_canSound : MethodName := ⟨RX9, "canSound", "(II)Z"⟩
abbrev cX9_soundsAt : ByteArray := prog_11_method_16_code
def yX9_soundsAt : MethodName := ⟨RX9, "soundsAt", "(I)I"⟩
abbrev cX9_isPossible : ByteArray := prog_11_method_17_code
def yX9_isPossible : MethodName := ⟨RX9, "isPossible", "(I)Z"⟩
abbrev cX9_isEdge : ByteArray := prog_11_method_18_code
def yX9_isEdge : MethodName := ⟨RX9, "isEdge", "(I)Z"⟩
abbrev cX9_calmest : ByteArray := prog_11_method_19_code
def yX9_calmest : MethodName := ⟨RX9, "calmest", "(II)I"⟩
abbrev cX9_stroke : ByteArray := prog_11_method_20_code
def yX9_stroke : MethodName := ⟨RX9, "stroke", "(I)V"⟩
abbrev cX9_allGrains : ByteArray := prog_11_method_21_code
def yX9_allGrains : MethodName := ⟨RX9, "allGrains", "()I"⟩
abbrev cX9_strew : ByteArray := prog_11_method_22_code
def yX9_strew : MethodName := ⟨RX9, "strew", "(III)I"⟩
abbrev cX9_sweep : ByteArray := prog_11_method_23_code
def yX9_sweep : MethodName := ⟨RX9, "sweep", "(I)I"⟩
abbrev cX9_clampOn : ByteArray := prog_11_method_24_code
def yX9_clampOn : MethodName := ⟨RX9, "clampOn", "(I)I"⟩
abbrev cX9_clamp : ByteArray := prog_11_method_25_code
def yX9_clamp : MethodName := ⟨RX9, "clamp", "(II)I"⟩
abbrev cX9_unclamp : ByteArray := prog_11_method_26_code
def yX9_unclamp : MethodName := ⟨RX9, "unclamp", "(I)I"⟩
abbrev cX9_set : ByteArray := prog_11_method_27_code
def yX9_set : MethodName := ⟨RX9, "set", "(II)I"⟩
abbrev cX9_waits : ByteArray := prog_11_method_28_code
def yX9_waits : MethodName := ⟨RX9, "waits", "(III)I"⟩
abbrev cX9_bow : ByteArray := prog_11_method_29_code
def yX9_bow : MethodName := ⟨RX9, "bow", "(III)I"⟩
abbrev cX9_strikeAt : ByteArray := prog_11_method_30_code
def yX9_strikeAt : MethodName := ⟨RX9, "strikeAt", "(I)V"⟩
abbrev cX9_strike : ByteArray := prog_11_method_31_code
def yX9_strike : MethodName := ⟨RX9, "strike", "(I)I"⟩
abbrev cX9_play : ByteArray := prog_11_method_32_code
def yX9_play : MethodName := ⟨RX9, "play", "(I)I"⟩
abbrev cX9_type : ByteArray := prog_11_method_33_code
def yX9_type : MethodName := ⟨RX9, "type", "(C)I"⟩
abbrev cX9_clearText : ByteArray := prog_11_method_34_code
def yX9_clearText : MethodName := ⟨RX9, "clearText", "()I"⟩
abbrev cX9_sign : ByteArray := prog_11_method_35_code
def yX9_sign : MethodName := ⟨RX9, "sign", "(II)I"⟩
abbrev cX9_number : ByteArray := prog_11_method_36_code
def yX9_number : MethodName := ⟨RX9, "number", "(II)I"⟩
abbrev cX9_go : ByteArray := prog_11_method_37_code
def yX9_go : MethodName := ⟨RX9, "go", "(Z)I"⟩
abbrev cX9_bowAll : ByteArray := prog_11_method_38_code
def yX9_bowAll : MethodName := ⟨RX9, "bowAll", "()I"⟩
abbrev cX9_undo : ByteArray := prog_11_method_39_code
def yX9_undo : MethodName := ⟨RX9, "undo", "()I"⟩
abbrev cX9_keep : ByteArray := prog_11_method_40_code
def yX9_keep : MethodName := ⟨RX9, "keep", "()I"⟩
abbrev cX9_restore : ByteArray := prog_11_method_41_code
def yX9_restore : MethodName := ⟨RX9, "restore", "()I"⟩
abbrev cX9_isStill : ByteArray := prog_11_method_42_code
def yX9_isStill : MethodName := ⟨RX9, "isStill", "(II)Z"⟩
abbrev cX9_place : ByteArray := prog_11_method_43_code
def yX9_place : MethodName := ⟨RX9, "place", "(III)I"⟩
abbrev cX9_still : ByteArray := prog_11_method_44_code
def yX9_still : MethodName := ⟨RX9, "still", "(II)I"⟩
abbrev cX9_lines : ByteArray := prog_11_method_45_code
def yX9_lines : MethodName := ⟨RX9, "lines", "(I)I"⟩
abbrev cX9_meet : ByteArray := prog_11_method_46_code
def yX9_meet : MethodName := ⟨RX9, "meet", "(I)V"⟩
abbrev cX9_way : ByteArray := prog_11_method_47_code
def yX9_way : MethodName := ⟨RX9, "way", "(II)I"⟩
abbrev cX9_swing : ByteArray := prog_11_method_48_code
def yX9_swing : MethodName := ⟨RX9, "swing", "(III)I"⟩
abbrev cX9_sounds : ByteArray := prog_11_method_49_code
def yX9_sounds : MethodName := ⟨RX9, "sounds", "(II)I"⟩
abbrev cX9_why : ByteArray := prog_11_method_50_code
def yX9_why : MethodName := ⟨RX9, "why", "(III)I"⟩
abbrev cX9_possible : ByteArray := prog_11_method_51_code
def yX9_possible : MethodName := ⟨RX9, "possible", "(I)I"⟩
abbrev cX9_waiting : ByteArray := prog_11_method_52_code
def yX9_waiting : MethodName := ⟨RX9, "waiting", "(II)I"⟩
abbrev cX9_sand : ByteArray := prog_11_method_53_code
def yX9_sand : MethodName := ⟨RX9, "sand", "(ZI)I"⟩
abbrev cX9_possibles : ByteArray := prog_11_method_54_code
def yX9_possibles : MethodName := ⟨RX9, "possibles", "()I"⟩
abbrev cX9_mostGrains : ByteArray := prog_11_method_55_code
def yX9_mostGrains : MethodName := ⟨RX9, "mostGrains", "()I"⟩
abbrev cX9_count : ByteArray := prog_11_method_56_code
def yX9_count : MethodName := ⟨RX9, "count", "(I)I"⟩
abbrev cX9_clampAt : ByteArray := prog_11_method_57_code
def yX9_clampAt : MethodName := ⟨RX9, "clampAt", "(IZ)I"⟩
def RJ9 : String := "java/lang/Math"
def TJ9 : u_T := fun k => match k with
  | _ => ("", "", "", false)
def tyJ9 : Nat → FieldType := fun k => match k with
  | _ => .int
abbrev wsJ90 : List Cond := u_ws RJ9 TJ9 0
theorem nmJ9 : ∀ a, a < 0 → ∀ b, b < 0 → a ≠ b → (TJ9 a).2.1 ≠ (TJ9 b).2.1 := by decide +kernel
theorem tyJ9_ok : ∀ k, k < 0 → parseFieldDescriptor (TJ9 k).2.2.1 = some (tyJ9 k) := by decide +kernel
abbrev cJ9_abs_0f7a4 : ByteArray := prog_12_method_59_code
def yJ9_abs_0f7a4 : MethodName := ⟨RJ9, "abs", "(I)I"⟩
abbrev cJ9_max_7cf53 : ByteArray := prog_12_method_65_code
def yJ9_max_7cf53 : MethodName := ⟨RJ9, "max", "(II)I"⟩
abbrev cJ9_min_7cf53 : ByteArray := prog_12_method_69_code
def yJ9_min_7cf53 : MethodName := ⟨RJ9, "min", "(II)I"⟩
def RJ10 : String := "java/lang/System"
def TJ10 : u_T := fun k => match k with
  | _ => ("", "", "", false)
def tyJ10 : Nat → FieldType := fun k => match k with
  | _ => .int
abbrev wsJ100 : List Cond := u_ws RJ10 TJ10 0
theorem nmJ10 : ∀ a, a < 0 → ∀ b, b < 0 → a ≠ b → (TJ10 a).2.1 ≠ (TJ10 b).2.1 := by decide +kernel
theorem tyJ10_ok : ∀ k, k < 0 → parseFieldDescriptor (TJ10 k).2.2.1 = some (tyJ10 k) := by decide +kernel
def RL : String := "BowedPlateLaw"
abbrev cL_law : ByteArray := code
def yL_law : MethodName := ⟨RL, "law", "([I)Z"⟩
def wsX0_init : List Cond := .code yX0_init cX0_init 3 none :: ([.methodLink RX0 3 objectInit, .instanceMethod objectInit, .code objectInit ⟨#[0xb1]⟩ 1 none, .arrayClass .int, .fieldLink RX0 9 "BowedPlate$Choice" "possibleWay" "[I", .fieldLink RX0 15 "BowedPlate$Choice" "possibleWays" "I", .arrayClass .boolean, .fieldLink RX0 19 "BowedPlate$Choice" "isTaken" "[Z", .fieldLink RX0 23 "BowedPlate$Choice" "ways" "LBowedPlate$Ways;", .fieldLink RX0 27 "BowedPlate$Choice" "now" "LBowedPlate$State;"] ++ wsX00)
def wsX8_isWay : List Cond := .code yX8_isWay cX8_isWay 1 (some .boolean) :: ([])
def wsX8_isPlace : List Cond := .code yX8_isPlace cX8_isPlace 2 (some .boolean) :: ([])
def wsX7_swingAt : List Cond := .code yX7_swingAt cX7_swingAt 8 (some .int) :: ([.fieldLink RX7 9 "BowedPlate$Ways" "lesser" "[I", .fieldLink RX7 15 "BowedPlate$Ways" "greater" "[I", .fieldLink RX7 21 "BowedPlate$Ways" "heights" "[I", .fieldLink RX7 18 "BowedPlate$Ways" "sign" "[I", .methodLink RX7 44 Lib.Math.abs.name, .static Lib.Math.abs.name, .initialized "java/lang/Math", .code Lib.Math.abs.name Lib.Math.abs.code 1 (some .int), .static yX8_isWay, .initialized RX8, .code yX8_isWay cX8_isWay 1 (some .boolean), .static yX8_isPlace, .code yX8_isPlace cX8_isPlace 2 (some .boolean)] ++ wsX70)
def wsX0_clampsAllow : List Cond := .code yX0_clampsAllow cX0_clampsAllow 4 (some .boolean) :: ([.fieldLink RX0 27 "BowedPlate$Choice" "now" "LBowedPlate$State;", .fieldLink RX0 23 "BowedPlate$Choice" "ways" "LBowedPlate$Ways;", .methodLink RX0 42 yX7_swingAt, .instanceMethod yX7_swingAt, .selects RX7 yX7_swingAt yX7_swingAt, .initialized RX7, .code yX7_swingAt cX7_swingAt 8 (some .int), .fieldLink RX7 9 "BowedPlate$Ways" "lesser" "[I", .fieldLink RX7 15 "BowedPlate$Ways" "greater" "[I", .fieldLink RX7 21 "BowedPlate$Ways" "heights" "[I", .fieldLink RX7 18 "BowedPlate$Ways" "sign" "[I", .methodLink RX7 44 Lib.Math.abs.name, .static Lib.Math.abs.name, .initialized "java/lang/Math", .code Lib.Math.abs.name Lib.Math.abs.code 1 (some .int), .static yX8_isWay, .initialized RX8, .code yX8_isWay cX8_isWay 1 (some .boolean), .static yX8_isPlace, .code yX8_isPlace cX8_isPlace 2 (some .boolean)] ++ wsX00 ++ wsX50 ++ wsX70)
def wsX0_swingAtBow : List Cond := .code yX0_swingAtBow cX0_swingAtBow 4 (some .int) :: ([.fieldLink RX0 23 "BowedPlate$Choice" "ways" "LBowedPlate$Ways;", .methodLink RX0 42 yX7_swingAt, .instanceMethod yX7_swingAt, .selects RX7 yX7_swingAt yX7_swingAt, .initialized RX7, .code yX7_swingAt cX7_swingAt 8 (some .int), .fieldLink RX7 9 "BowedPlate$Ways" "lesser" "[I", .fieldLink RX7 15 "BowedPlate$Ways" "greater" "[I", .fieldLink RX7 21 "BowedPlate$Ways" "heights" "[I", .fieldLink RX7 18 "BowedPlate$Ways" "sign" "[I", .methodLink RX7 44 Lib.Math.abs.name, .static Lib.Math.abs.name, .initialized "java/lang/Math", .code Lib.Math.abs.name Lib.Math.abs.code 1 (some .int), .static yX8_isWay, .initialized RX8, .code yX8_isWay cX8_isWay 1 (some .boolean), .static yX8_isPlace, .code yX8_isPlace cX8_isPlace 2 (some .boolean)] ++ wsX00 ++ wsX70)
def wsX0_bowAllows_r1 : List Cond := [Cond.fieldLink RX0 27 "BowedPlate$Choice" "now" "LBowedPlate$State;", Cond.methodLink RX0 51 yX0_swingAtBow, Cond.instanceMethod yX0_swingAtBow, Cond.selects RX0 yX0_swingAtBow yX0_swingAtBow, Cond.initialized RX0, Cond.code yX0_swingAtBow cX0_swingAtBow 4 (some .int), Cond.fieldLink RX0 23 "BowedPlate$Choice" "ways" "LBowedPlate$Ways;", Cond.methodLink RX0 42 yX7_swingAt, Cond.instanceMethod yX7_swingAt, Cond.selects RX7 yX7_swingAt yX7_swingAt, Cond.initialized RX7, Cond.code yX7_swingAt cX7_swingAt 8 (some .int), Cond.fieldLink RX7 9 "BowedPlate$Ways" "lesser" "[I", Cond.fieldLink RX7 15 "BowedPlate$Ways" "greater" "[I", Cond.fieldLink RX7 21 "BowedPlate$Ways" "heights" "[I", Cond.fieldLink RX7 18 "BowedPlate$Ways" "sign" "[I", Cond.methodLink RX7 44 Lib.Math.abs.name, Cond.static Lib.Math.abs.name, Cond.initialized "java/lang/Math", Cond.code Lib.Math.abs.name Lib.Math.abs.code 1 (some .int), Cond.static yX8_isWay, Cond.initialized RX8, Cond.code yX8_isWay cX8_isWay 1 (some .boolean), Cond.static yX8_isPlace]
def wsX0_bowAllows_r2 : List Cond := [Cond.code yX8_isPlace cX8_isPlace 2 (some .boolean)]
def wsX0_bowAllows : List Cond := .code yX0_bowAllows cX0_bowAllows 4 (some .boolean) :: ((wsX0_bowAllows_r1 ++ wsX0_bowAllows_r2) ++ wsX00 ++ wsX50 ++ wsX70)
def wsX0_wayFor_r1 : List Cond := [Cond.methodLink RX0 54 yX0_bowAllows, Cond.instanceMethod yX0_bowAllows, Cond.selects RX0 yX0_bowAllows yX0_bowAllows, Cond.initialized RX0, Cond.code yX0_bowAllows cX0_bowAllows 4 (some .boolean), Cond.fieldLink RX0 27 "BowedPlate$Choice" "now" "LBowedPlate$State;", Cond.methodLink RX0 51 yX0_swingAtBow, Cond.instanceMethod yX0_swingAtBow, Cond.selects RX0 yX0_swingAtBow yX0_swingAtBow, Cond.code yX0_swingAtBow cX0_swingAtBow 4 (some .int), Cond.fieldLink RX0 23 "BowedPlate$Choice" "ways" "LBowedPlate$Ways;", Cond.methodLink RX0 42 yX7_swingAt, Cond.instanceMethod yX7_swingAt, Cond.selects RX7 yX7_swingAt yX7_swingAt, Cond.initialized RX7, Cond.code yX7_swingAt cX7_swingAt 8 (some .int), Cond.fieldLink RX7 9 "BowedPlate$Ways" "lesser" "[I", Cond.fieldLink RX7 15 "BowedPlate$Ways" "greater" "[I", Cond.fieldLink RX7 21 "BowedPlate$Ways" "heights" "[I", Cond.fieldLink RX7 18 "BowedPlate$Ways" "sign" "[I", Cond.methodLink RX7 44 Lib.Math.abs.name, Cond.static Lib.Math.abs.name, Cond.initialized "java/lang/Math", Cond.code Lib.Math.abs.name Lib.Math.abs.code 1 (some .int)]
def wsX0_wayFor_r2 : List Cond := [Cond.static yX8_isWay, Cond.initialized RX8, Cond.code yX8_isWay cX8_isWay 1 (some .boolean), Cond.static yX8_isPlace, Cond.code yX8_isPlace cX8_isPlace 2 (some .boolean), Cond.methodLink RX0 58 yX0_clampsAllow, Cond.instanceMethod yX0_clampsAllow, Cond.selects RX0 yX0_clampsAllow yX0_clampsAllow, Cond.code yX0_clampsAllow cX0_clampsAllow 4 (some .boolean)]
def wsX0_wayFor : List Cond := .code yX0_wayFor cX0_wayFor 4 (some .int) :: ((wsX0_wayFor_r1 ++ wsX0_wayFor_r2) ++ wsX00 ++ wsX50 ++ wsX70)
def wsX0_reasonOf_r1 : List Cond := [Cond.methodLink RX0 58 yX0_clampsAllow, Cond.instanceMethod yX0_clampsAllow, Cond.selects RX0 yX0_clampsAllow yX0_clampsAllow, Cond.initialized RX0, Cond.code yX0_clampsAllow cX0_clampsAllow 4 (some .boolean), Cond.fieldLink RX0 27 "BowedPlate$Choice" "now" "LBowedPlate$State;", Cond.fieldLink RX0 23 "BowedPlate$Choice" "ways" "LBowedPlate$Ways;", Cond.methodLink RX0 42 yX7_swingAt, Cond.instanceMethod yX7_swingAt, Cond.selects RX7 yX7_swingAt yX7_swingAt, Cond.initialized RX7, Cond.code yX7_swingAt cX7_swingAt 8 (some .int), Cond.fieldLink RX7 9 "BowedPlate$Ways" "lesser" "[I", Cond.fieldLink RX7 15 "BowedPlate$Ways" "greater" "[I", Cond.fieldLink RX7 21 "BowedPlate$Ways" "heights" "[I", Cond.fieldLink RX7 18 "BowedPlate$Ways" "sign" "[I", Cond.methodLink RX7 44 Lib.Math.abs.name, Cond.static Lib.Math.abs.name, Cond.initialized "java/lang/Math", Cond.code Lib.Math.abs.name Lib.Math.abs.code 1 (some .int), Cond.static yX8_isWay, Cond.initialized RX8, Cond.code yX8_isWay cX8_isWay 1 (some .boolean), Cond.static yX8_isPlace]
def wsX0_reasonOf_r2 : List Cond := [Cond.code yX8_isPlace cX8_isPlace 2 (some .boolean), Cond.methodLink RX0 54 yX0_bowAllows, Cond.instanceMethod yX0_bowAllows, Cond.selects RX0 yX0_bowAllows yX0_bowAllows, Cond.code yX0_bowAllows cX0_bowAllows 4 (some .boolean), Cond.methodLink RX0 51 yX0_swingAtBow, Cond.instanceMethod yX0_swingAtBow, Cond.selects RX0 yX0_swingAtBow yX0_swingAtBow, Cond.code yX0_swingAtBow cX0_swingAtBow 4 (some .int), Cond.methodLink RX0 62 yX0_wayFor, Cond.instanceMethod yX0_wayFor, Cond.selects RX0 yX0_wayFor yX0_wayFor, Cond.code yX0_wayFor cX0_wayFor 4 (some .int)]
def wsX0_reasonOf : List Cond := .code yX0_reasonOf cX0_reasonOf 4 (some .int) :: ((wsX0_reasonOf_r1 ++ wsX0_reasonOf_r2) ++ wsX00 ++ wsX50 ++ wsX70)
def wsX0_takesBow_r1 : List Cond := [Cond.fieldLink RX0 19 "BowedPlate$Choice" "isTaken" "[Z", Cond.methodLink RX0 54 yX0_bowAllows, Cond.instanceMethod yX0_bowAllows, Cond.selects RX0 yX0_bowAllows yX0_bowAllows, Cond.initialized RX0, Cond.code yX0_bowAllows cX0_bowAllows 4 (some .boolean), Cond.fieldLink RX0 27 "BowedPlate$Choice" "now" "LBowedPlate$State;", Cond.methodLink RX0 51 yX0_swingAtBow, Cond.instanceMethod yX0_swingAtBow, Cond.selects RX0 yX0_swingAtBow yX0_swingAtBow, Cond.code yX0_swingAtBow cX0_swingAtBow 4 (some .int), Cond.fieldLink RX0 23 "BowedPlate$Choice" "ways" "LBowedPlate$Ways;", Cond.methodLink RX0 42 yX7_swingAt, Cond.instanceMethod yX7_swingAt, Cond.selects RX7 yX7_swingAt yX7_swingAt, Cond.initialized RX7, Cond.code yX7_swingAt cX7_swingAt 8 (some .int), Cond.fieldLink RX7 9 "BowedPlate$Ways" "lesser" "[I", Cond.fieldLink RX7 15 "BowedPlate$Ways" "greater" "[I", Cond.fieldLink RX7 21 "BowedPlate$Ways" "heights" "[I", Cond.fieldLink RX7 18 "BowedPlate$Ways" "sign" "[I", Cond.methodLink RX7 44 Lib.Math.abs.name, Cond.static Lib.Math.abs.name, Cond.initialized "java/lang/Math"]
def wsX0_takesBow_r2 : List Cond := [Cond.code Lib.Math.abs.name Lib.Math.abs.code 1 (some .int), Cond.static yX8_isWay, Cond.initialized RX8, Cond.code yX8_isWay cX8_isWay 1 (some .boolean), Cond.static yX8_isPlace, Cond.code yX8_isPlace cX8_isPlace 2 (some .boolean)]
def wsX0_takesBow : List Cond := .code yX0_takesBow cX0_takesBow 4 (some .boolean) :: ((wsX0_takesBow_r1 ++ wsX0_takesBow_r2) ++ wsX00 ++ wsX50 ++ wsX70)
def wsX0_findPossible_r1 : List Cond := [Cond.fieldLink RX0 19 "BowedPlate$Choice" "isTaken" "[Z", Cond.fieldLink RX0 15 "BowedPlate$Choice" "possibleWays" "I", Cond.fieldLink RX0 9 "BowedPlate$Choice" "possibleWay" "[I", Cond.methodLink RX0 58 yX0_clampsAllow, Cond.instanceMethod yX0_clampsAllow, Cond.selects RX0 yX0_clampsAllow yX0_clampsAllow, Cond.initialized RX0, Cond.code yX0_clampsAllow cX0_clampsAllow 4 (some .boolean), Cond.fieldLink RX0 27 "BowedPlate$Choice" "now" "LBowedPlate$State;", Cond.fieldLink RX0 23 "BowedPlate$Choice" "ways" "LBowedPlate$Ways;", Cond.methodLink RX0 42 yX7_swingAt, Cond.instanceMethod yX7_swingAt, Cond.selects RX7 yX7_swingAt yX7_swingAt, Cond.initialized RX7, Cond.code yX7_swingAt cX7_swingAt 8 (some .int), Cond.fieldLink RX7 9 "BowedPlate$Ways" "lesser" "[I", Cond.fieldLink RX7 15 "BowedPlate$Ways" "greater" "[I", Cond.fieldLink RX7 21 "BowedPlate$Ways" "heights" "[I", Cond.fieldLink RX7 18 "BowedPlate$Ways" "sign" "[I", Cond.methodLink RX7 44 Lib.Math.abs.name, Cond.static Lib.Math.abs.name, Cond.initialized "java/lang/Math", Cond.code Lib.Math.abs.name Lib.Math.abs.code 1 (some .int), Cond.static yX8_isWay]
def wsX0_findPossible_r2 : List Cond := [Cond.initialized RX8, Cond.code yX8_isWay cX8_isWay 1 (some .boolean), Cond.static yX8_isPlace, Cond.code yX8_isPlace cX8_isPlace 2 (some .boolean), Cond.methodLink RX0 66 yX0_takesBow, Cond.instanceMethod yX0_takesBow, Cond.selects RX0 yX0_takesBow yX0_takesBow, Cond.code yX0_takesBow cX0_takesBow 4 (some .boolean), Cond.methodLink RX0 54 yX0_bowAllows, Cond.instanceMethod yX0_bowAllows, Cond.selects RX0 yX0_bowAllows yX0_bowAllows, Cond.code yX0_bowAllows cX0_bowAllows 4 (some .boolean), Cond.methodLink RX0 51 yX0_swingAtBow, Cond.instanceMethod yX0_swingAtBow, Cond.selects RX0 yX0_swingAtBow yX0_swingAtBow, Cond.code yX0_swingAtBow cX0_swingAtBow 4 (some .int)]
def wsX0_findPossible : List Cond := .code yX0_findPossible cX0_findPossible 2 none :: ((wsX0_findPossible_r1 ++ wsX0_findPossible_r2) ++ wsX00 ++ wsX50 ++ wsX70)
def wsX1_init : List Cond := .code yX1_init cX1_init 3 none :: ([.methodLink RX1 3 objectInit, .instanceMethod objectInit, .code objectInit ⟨#[0xb1]⟩ 1 none, .arrayClass .boolean, .fieldLink RX1 9 "BowedPlate$Figure" "isOpen" "[Z", .arrayClass .int, .fieldLink RX1 15 "BowedPlate$Figure" "reached" "[I", .fieldLink RX1 19 "BowedPlate$Figure" "reaches" "I", .fieldLink RX1 23 "BowedPlate$Figure" "ways" "LBowedPlate$Ways;", .fieldLink RX1 27 "BowedPlate$Figure" "now" "LBowedPlate$State;"] ++ wsX10)
def wsX1_isStill : List Cond := .code yX1_isStill cX1_isStill 4 (some .boolean) :: ([.fieldLink RX1 23 "BowedPlate$Figure" "ways" "LBowedPlate$Ways;", .fieldLink RX1 27 "BowedPlate$Figure" "now" "LBowedPlate$State;", .methodLink RX1 31 yX7_swingAt, .instanceMethod yX7_swingAt, .selects RX7 yX7_swingAt yX7_swingAt, .initialized RX7, .code yX7_swingAt cX7_swingAt 8 (some .int), .fieldLink RX7 9 "BowedPlate$Ways" "lesser" "[I", .fieldLink RX7 15 "BowedPlate$Ways" "greater" "[I", .fieldLink RX7 21 "BowedPlate$Ways" "heights" "[I", .fieldLink RX7 18 "BowedPlate$Ways" "sign" "[I", .methodLink RX7 44 Lib.Math.abs.name, .static Lib.Math.abs.name, .initialized "java/lang/Math", .code Lib.Math.abs.name Lib.Math.abs.code 1 (some .int), .static yX8_isWay, .initialized RX8, .code yX8_isWay cX8_isWay 1 (some .boolean), .static yX8_isPlace, .code yX8_isPlace cX8_isPlace 2 (some .boolean)] ++ wsX10 ++ wsX50 ++ wsX70)
def wsX8_columnOf : List Cond := .code yX8_columnOf cX8_columnOf 1 (some .int) :: ([])
def wsX8_rowOf : List Cond := .code yX8_rowOf cX8_rowOf 1 (some .int) :: ([])
def wsX1_stillPlaces_r1 : List Cond := [Cond.static yX8_columnOf, Cond.initialized RX8, Cond.code yX8_columnOf cX8_columnOf 1 (some .int), Cond.static yX8_rowOf, Cond.code yX8_rowOf cX8_rowOf 1 (some .int), Cond.methodLink RX1 49 yX1_isStill, Cond.instanceMethod yX1_isStill, Cond.selects RX1 yX1_isStill yX1_isStill, Cond.initialized RX1, Cond.code yX1_isStill cX1_isStill 4 (some .boolean), Cond.fieldLink RX1 23 "BowedPlate$Figure" "ways" "LBowedPlate$Ways;", Cond.fieldLink RX1 27 "BowedPlate$Figure" "now" "LBowedPlate$State;", Cond.methodLink RX1 31 yX7_swingAt, Cond.instanceMethod yX7_swingAt, Cond.selects RX7 yX7_swingAt yX7_swingAt, Cond.initialized RX7, Cond.code yX7_swingAt cX7_swingAt 8 (some .int), Cond.fieldLink RX7 9 "BowedPlate$Ways" "lesser" "[I", Cond.fieldLink RX7 15 "BowedPlate$Ways" "greater" "[I", Cond.fieldLink RX7 21 "BowedPlate$Ways" "heights" "[I", Cond.fieldLink RX7 18 "BowedPlate$Ways" "sign" "[I", Cond.methodLink RX7 44 Lib.Math.abs.name, Cond.static Lib.Math.abs.name, Cond.initialized "java/lang/Math"]
def wsX1_stillPlaces_r2 : List Cond := [Cond.code Lib.Math.abs.name Lib.Math.abs.code 1 (some .int), Cond.static yX8_isWay, Cond.code yX8_isWay cX8_isWay 1 (some .boolean), Cond.static yX8_isPlace, Cond.code yX8_isPlace cX8_isPlace 2 (some .boolean)]
def wsX1_stillPlaces : List Cond := .code yX1_stillPlaces cX1_stillPlaces 4 (some .int) :: ((wsX1_stillPlaces_r1 ++ wsX1_stillPlaces_r2) ++ wsX10 ++ wsX50 ++ wsX70)
def wsX1_grainsOnLines_r1 : List Cond := [Cond.fieldLink RX1 27 "BowedPlate$Figure" "now" "LBowedPlate$State;", Cond.static yX8_columnOf, Cond.initialized RX8, Cond.code yX8_columnOf cX8_columnOf 1 (some .int), Cond.static yX8_rowOf, Cond.code yX8_rowOf cX8_rowOf 1 (some .int), Cond.methodLink RX1 49 yX1_isStill, Cond.instanceMethod yX1_isStill, Cond.selects RX1 yX1_isStill yX1_isStill, Cond.initialized RX1, Cond.code yX1_isStill cX1_isStill 4 (some .boolean), Cond.fieldLink RX1 23 "BowedPlate$Figure" "ways" "LBowedPlate$Ways;", Cond.methodLink RX1 31 yX7_swingAt, Cond.instanceMethod yX7_swingAt, Cond.selects RX7 yX7_swingAt yX7_swingAt, Cond.initialized RX7, Cond.code yX7_swingAt cX7_swingAt 8 (some .int), Cond.fieldLink RX7 9 "BowedPlate$Ways" "lesser" "[I", Cond.fieldLink RX7 15 "BowedPlate$Ways" "greater" "[I", Cond.fieldLink RX7 21 "BowedPlate$Ways" "heights" "[I", Cond.fieldLink RX7 18 "BowedPlate$Ways" "sign" "[I", Cond.methodLink RX7 44 Lib.Math.abs.name, Cond.static Lib.Math.abs.name, Cond.initialized "java/lang/Math"]
def wsX1_grainsOnLines_r2 : List Cond := [Cond.code Lib.Math.abs.name Lib.Math.abs.code 1 (some .int), Cond.static yX8_isWay, Cond.code yX8_isWay cX8_isWay 1 (some .boolean), Cond.static yX8_isPlace, Cond.code yX8_isPlace cX8_isPlace 2 (some .boolean)]
def wsX1_grainsOnLines : List Cond := .code yX1_grainsOnLines cX1_grainsOnLines 4 (some .int) :: ((wsX1_grainsOnLines_r1 ++ wsX1_grainsOnLines_r2) ++ wsX10 ++ wsX50 ++ wsX70)
def wsX8_placeOf : List Cond := .code yX8_placeOf cX8_placeOf 2 (some .int) :: ([])
def wsX1_reach : List Cond := .code yX1_reach cX1_reach 3 none :: ([.fieldLink RX1 9 "BowedPlate$Figure" "isOpen" "[Z", .fieldLink RX1 19 "BowedPlate$Figure" "reaches" "I", .fieldLink RX1 15 "BowedPlate$Figure" "reached" "[I", .static yX8_isPlace, .initialized RX8, .code yX8_isPlace cX8_isPlace 2 (some .boolean), .static yX8_placeOf, .code yX8_placeOf cX8_placeOf 2 (some .int)] ++ wsX10)
def wsX1_closeLine : List Cond := .code yX1_closeLine cX1_closeLine 5 none :: ([.fieldLink RX1 19 "BowedPlate$Figure" "reaches" "I", .fieldLink RX1 15 "BowedPlate$Figure" "reached" "[I", .static yX8_columnOf, .initialized RX8, .code yX8_columnOf cX8_columnOf 1 (some .int), .static yX8_rowOf, .code yX8_rowOf cX8_rowOf 1 (some .int), .methodLink RX1 60 yX1_reach, .instanceMethod yX1_reach, .selects RX1 yX1_reach yX1_reach, .initialized RX1, .code yX1_reach cX1_reach 3 none, .fieldLink RX1 9 "BowedPlate$Figure" "isOpen" "[Z", .static yX8_isPlace, .code yX8_isPlace cX8_isPlace 2 (some .boolean), .static yX8_placeOf, .code yX8_placeOf cX8_placeOf 2 (some .int)] ++ wsX10)
def wsX1_lines_r1 : List Cond := [Cond.fieldLink RX1 9 "BowedPlate$Figure" "isOpen" "[Z", Cond.static yX8_columnOf, Cond.initialized RX8, Cond.code yX8_columnOf cX8_columnOf 1 (some .int), Cond.static yX8_rowOf, Cond.code yX8_rowOf cX8_rowOf 1 (some .int), Cond.methodLink RX1 49 yX1_isStill, Cond.instanceMethod yX1_isStill, Cond.selects RX1 yX1_isStill yX1_isStill, Cond.initialized RX1, Cond.code yX1_isStill cX1_isStill 4 (some .boolean), Cond.fieldLink RX1 23 "BowedPlate$Figure" "ways" "LBowedPlate$Ways;", Cond.fieldLink RX1 27 "BowedPlate$Figure" "now" "LBowedPlate$State;", Cond.methodLink RX1 31 yX7_swingAt, Cond.instanceMethod yX7_swingAt, Cond.selects RX7 yX7_swingAt yX7_swingAt, Cond.initialized RX7, Cond.code yX7_swingAt cX7_swingAt 8 (some .int), Cond.fieldLink RX7 9 "BowedPlate$Ways" "lesser" "[I", Cond.fieldLink RX7 15 "BowedPlate$Ways" "greater" "[I", Cond.fieldLink RX7 21 "BowedPlate$Ways" "heights" "[I", Cond.fieldLink RX7 18 "BowedPlate$Ways" "sign" "[I", Cond.methodLink RX7 44 Lib.Math.abs.name, Cond.static Lib.Math.abs.name]
def wsX1_lines_r2 : List Cond := [Cond.initialized "java/lang/Math", Cond.code Lib.Math.abs.name Lib.Math.abs.code 1 (some .int), Cond.static yX8_isWay, Cond.code yX8_isWay cX8_isWay 1 (some .boolean), Cond.static yX8_isPlace, Cond.code yX8_isPlace cX8_isPlace 2 (some .boolean), Cond.methodLink RX1 56 yX1_closeLine, Cond.instanceMethod yX1_closeLine, Cond.selects RX1 yX1_closeLine yX1_closeLine, Cond.code yX1_closeLine cX1_closeLine 5 none, Cond.fieldLink RX1 19 "BowedPlate$Figure" "reaches" "I", Cond.fieldLink RX1 15 "BowedPlate$Figure" "reached" "[I", Cond.methodLink RX1 60 yX1_reach, Cond.instanceMethod yX1_reach, Cond.selects RX1 yX1_reach yX1_reach, Cond.code yX1_reach cX1_reach 3 none, Cond.static yX8_placeOf, Cond.code yX8_placeOf cX8_placeOf 2 (some .int)]
def wsX1_lines : List Cond := .code yX1_lines cX1_lines 4 (some .int) :: ((wsX1_lines_r1 ++ wsX1_lines_r2) ++ wsX10 ++ wsX50 ++ wsX70)
def wsX4_init : List Cond := .code yX4_init cX4_init 2 none :: ([.methodLink RX4 1 objectInit, .instanceMethod objectInit, .code objectInit ⟨#[0xb1]⟩ 1 none, .fieldLink RX4 7 "BowedPlate$Piece" "size" "I", .methodLink RX4 13 Lib.Math.max.name, .static Lib.Math.max.name, .initialized "java/lang/Math", .code Lib.Math.max.name Lib.Math.max.code 2 (some .int), .fieldLink RX4 19 "BowedPlate$Piece" "limit" "I", .arrayClass .int, .fieldLink RX4 22 "BowedPlate$Piece" "sides" "[I", .fieldLink RX4 26 "BowedPlate$Piece" "alongs" "[I", .fieldLink RX4 29 "BowedPlate$Piece" "strokes" "[I"] ++ wsX40)
def wsX5_coverWith : List Cond := .code yX5_coverWith cX5_coverWith 3 none :: ([.fieldLink RX5 9 "BowedPlate$State" "grains" "[I"] ++ wsX50)
def wsX5_init_r1 : List Cond := [Cond.methodLink RX5 3 objectInit, Cond.instanceMethod objectInit, Cond.code objectInit ⟨#[0xb1]⟩ 1 none, Cond.arrayClass .int, Cond.fieldLink RX5 9 "BowedPlate$State" "grains" "[I", Cond.fieldLink RX5 15 "BowedPlate$State" "clampColumns" "[I", Cond.fieldLink RX5 18 "BowedPlate$State" "clampRows" "[I", Cond.fieldLink RX5 21 "BowedPlate$State" "clamps" "I", Cond.fieldLink RX5 25 "BowedPlate$State" "settings" "[I", Cond.classLink RX5 28 RX4, Cond.instantiable RX4 5, Cond.initialized RX4, Cond.fieldLink RX5 33 "BowedPlate$State" "piece" "LBowedPlate$Piece;", Cond.fieldLink RX5 37 "BowedPlate$State" "lastWay" "I", Cond.fieldLink RX5 40 "BowedPlate$State" "strewn" "I", Cond.fieldLink RX5 43 "BowedPlate$State" "swept" "I", Cond.fieldLink RX5 46 "BowedPlate$State" "fallen" "I", Cond.fieldLink RX5 49 "BowedPlate$State" "strokes" "I", Cond.fieldLink RX5 52 "BowedPlate$State" "mutes" "I", Cond.methodLink RX5 61 arraycopyName, Cond.native arraycopyName, Cond.static arraycopyName, Cond.initialized "java/lang/System", Cond.methodLink RX5 30 yX4_init]
def wsX5_init_r2 : List Cond := [Cond.instanceMethod yX4_init, Cond.code yX4_init cX4_init 2 none, Cond.methodLink RX4 1 objectInit, Cond.fieldLink RX4 7 "BowedPlate$Piece" "size" "I", Cond.methodLink RX4 13 Lib.Math.max.name, Cond.static Lib.Math.max.name, Cond.initialized "java/lang/Math", Cond.code Lib.Math.max.name Lib.Math.max.code 2 (some .int), Cond.fieldLink RX4 19 "BowedPlate$Piece" "limit" "I", Cond.fieldLink RX4 22 "BowedPlate$Piece" "sides" "[I", Cond.fieldLink RX4 26 "BowedPlate$Piece" "alongs" "[I", Cond.fieldLink RX4 29 "BowedPlate$Piece" "strokes" "[I", Cond.methodLink RX5 55 yX5_coverWith, Cond.instanceMethod yX5_coverWith, Cond.selects RX5 yX5_coverWith yX5_coverWith, Cond.initialized RX5, Cond.code yX5_coverWith cX5_coverWith 3 none]
def wsX5_init : List Cond := .code yX5_init cX5_init 1 none :: ((wsX5_init_r1 ++ wsX5_init_r2) ++ wsX50 ++ wsX40)
def wsX2_init_r1 : List Cond := [Cond.methodLink RX2 3 objectInit, Cond.instanceMethod objectInit, Cond.code objectInit ⟨#[0xb1]⟩ 1 none, Cond.classLink RX2 9 RX5, Cond.fieldLink RX2 11 "BowedPlate$History" "states" "[LBowedPlate$State;", Cond.fieldLink RX2 17 "BowedPlate$History" "oldest" "I", Cond.fieldLink RX2 21 "BowedPlate$History" "held" "I", Cond.instantiable RX5 12, Cond.initialized RX5, Cond.methodLink RX2 24 yX5_init, Cond.instanceMethod yX5_init, Cond.code yX5_init cX5_init 1 none, Cond.methodLink RX5 3 objectInit, Cond.arrayClass .int, Cond.fieldLink RX5 9 "BowedPlate$State" "grains" "[I", Cond.fieldLink RX5 15 "BowedPlate$State" "clampColumns" "[I", Cond.fieldLink RX5 18 "BowedPlate$State" "clampRows" "[I", Cond.fieldLink RX5 21 "BowedPlate$State" "clamps" "I", Cond.fieldLink RX5 25 "BowedPlate$State" "settings" "[I", Cond.classLink RX5 28 RX4, Cond.instantiable RX4 5, Cond.initialized RX4, Cond.fieldLink RX5 33 "BowedPlate$State" "piece" "LBowedPlate$Piece;", Cond.fieldLink RX5 37 "BowedPlate$State" "lastWay" "I"]
def wsX2_init_r2 : List Cond := [Cond.fieldLink RX5 40 "BowedPlate$State" "strewn" "I", Cond.fieldLink RX5 43 "BowedPlate$State" "swept" "I", Cond.fieldLink RX5 46 "BowedPlate$State" "fallen" "I", Cond.fieldLink RX5 49 "BowedPlate$State" "strokes" "I", Cond.fieldLink RX5 52 "BowedPlate$State" "mutes" "I", Cond.methodLink RX5 61 arraycopyName, Cond.native arraycopyName, Cond.static arraycopyName, Cond.initialized "java/lang/System", Cond.methodLink RX5 30 yX4_init, Cond.instanceMethod yX4_init, Cond.code yX4_init cX4_init 2 none, Cond.methodLink RX4 1 objectInit, Cond.fieldLink RX4 7 "BowedPlate$Piece" "size" "I", Cond.methodLink RX4 13 Lib.Math.max.name, Cond.static Lib.Math.max.name, Cond.initialized "java/lang/Math", Cond.code Lib.Math.max.name Lib.Math.max.code 2 (some .int), Cond.fieldLink RX4 19 "BowedPlate$Piece" "limit" "I", Cond.fieldLink RX4 22 "BowedPlate$Piece" "sides" "[I", Cond.fieldLink RX4 26 "BowedPlate$Piece" "alongs" "[I", Cond.fieldLink RX4 29 "BowedPlate$Piece" "strokes" "[I", Cond.methodLink RX5 55 yX5_coverWith, Cond.instanceMethod yX5_coverWith]
def wsX2_init_r3 : List Cond := [Cond.selects RX5 yX5_coverWith yX5_coverWith, Cond.code yX5_coverWith cX5_coverWith 3 none]
def wsX2_init : List Cond := .code yX2_init cX2_init 2 none :: ((wsX2_init_r1 ++ (wsX2_init_r2 ++ wsX2_init_r3)) ++ wsX20 ++ wsX50 ++ wsX40)
def wsX4_append : List Cond := .code yX4_append cX4_append 4 none :: ([.fieldLink RX4 7 "BowedPlate$Piece" "size" "I", .fieldLink RX4 19 "BowedPlate$Piece" "limit" "I", .fieldLink RX4 22 "BowedPlate$Piece" "sides" "[I", .fieldLink RX4 26 "BowedPlate$Piece" "alongs" "[I", .fieldLink RX4 29 "BowedPlate$Piece" "strokes" "[I"] ++ wsX40)
def wsX4_appendAll : List Cond := .code yX4_appendAll cX4_appendAll 3 none :: ([.fieldLink RX4 7 "BowedPlate$Piece" "size" "I", .fieldLink RX4 22 "BowedPlate$Piece" "sides" "[I", .fieldLink RX4 26 "BowedPlate$Piece" "alongs" "[I", .fieldLink RX4 29 "BowedPlate$Piece" "strokes" "[I", .methodLink RX4 32 yX4_append, .instanceMethod yX4_append, .selects RX4 yX4_append yX4_append, .initialized RX4, .code yX4_append cX4_append 4 none, .fieldLink RX4 19 "BowedPlate$Piece" "limit" "I"] ++ wsX40)
def wsX4_copyFrom : List Cond := .code yX4_copyFrom cX4_copyFrom 2 none :: ([.fieldLink RX4 7 "BowedPlate$Piece" "size" "I", .methodLink RX4 36 yX4_appendAll, .instanceMethod yX4_appendAll, .selects RX4 yX4_appendAll yX4_appendAll, .initialized RX4, .code yX4_appendAll cX4_appendAll 3 none, .fieldLink RX4 22 "BowedPlate$Piece" "sides" "[I", .fieldLink RX4 26 "BowedPlate$Piece" "alongs" "[I", .fieldLink RX4 29 "BowedPlate$Piece" "strokes" "[I", .methodLink RX4 32 yX4_append, .instanceMethod yX4_append, .selects RX4 yX4_append yX4_append, .code yX4_append cX4_append 4 none, .fieldLink RX4 19 "BowedPlate$Piece" "limit" "I"] ++ wsX40)
def wsX5_copyFrom_r1 : List Cond := [Cond.fieldLink RX5 9 "BowedPlate$State" "grains" "[I", Cond.methodLink RX5 61 arraycopyName, Cond.native arraycopyName, Cond.static arraycopyName, Cond.initialized "java/lang/System", Cond.fieldLink RX5 15 "BowedPlate$State" "clampColumns" "[I", Cond.fieldLink RX5 18 "BowedPlate$State" "clampRows" "[I", Cond.fieldLink RX5 21 "BowedPlate$State" "clamps" "I", Cond.fieldLink RX5 25 "BowedPlate$State" "settings" "[I", Cond.fieldLink RX5 33 "BowedPlate$State" "piece" "LBowedPlate$Piece;", Cond.fieldLink RX5 37 "BowedPlate$State" "lastWay" "I", Cond.fieldLink RX5 40 "BowedPlate$State" "strewn" "I", Cond.fieldLink RX5 43 "BowedPlate$State" "swept" "I", Cond.fieldLink RX5 46 "BowedPlate$State" "fallen" "I", Cond.fieldLink RX5 49 "BowedPlate$State" "strokes" "I", Cond.fieldLink RX5 52 "BowedPlate$State" "mutes" "I", Cond.methodLink RX5 67 yX4_copyFrom, Cond.instanceMethod yX4_copyFrom, Cond.selects RX4 yX4_copyFrom yX4_copyFrom, Cond.initialized RX4, Cond.code yX4_copyFrom cX4_copyFrom 2 none, Cond.fieldLink RX4 7 "BowedPlate$Piece" "size" "I", Cond.methodLink RX4 36 yX4_appendAll, Cond.instanceMethod yX4_appendAll]
def wsX5_copyFrom_r2 : List Cond := [Cond.selects RX4 yX4_appendAll yX4_appendAll, Cond.code yX4_appendAll cX4_appendAll 3 none, Cond.fieldLink RX4 22 "BowedPlate$Piece" "sides" "[I", Cond.fieldLink RX4 26 "BowedPlate$Piece" "alongs" "[I", Cond.fieldLink RX4 29 "BowedPlate$Piece" "strokes" "[I", Cond.methodLink RX4 32 yX4_append, Cond.instanceMethod yX4_append, Cond.selects RX4 yX4_append yX4_append, Cond.code yX4_append cX4_append 4 none, Cond.fieldLink RX4 19 "BowedPlate$Piece" "limit" "I"]
def wsX5_copyFrom : List Cond := .code yX5_copyFrom cX5_copyFrom 2 none :: ((wsX5_copyFrom_r1 ++ wsX5_copyFrom_r2) ++ wsX50 ++ wsX40)
def wsX2_record_r1 : List Cond := [Cond.fieldLink RX2 21 "BowedPlate$History" "held" "I", Cond.fieldLink RX2 17 "BowedPlate$History" "oldest" "I", Cond.fieldLink RX2 11 "BowedPlate$History" "states" "[LBowedPlate$State;", Cond.methodLink RX2 25 yX5_copyFrom, Cond.instanceMethod yX5_copyFrom, Cond.selects RX5 yX5_copyFrom yX5_copyFrom, Cond.initialized RX5, Cond.code yX5_copyFrom cX5_copyFrom 2 none, Cond.fieldLink RX5 9 "BowedPlate$State" "grains" "[I", Cond.methodLink RX5 61 arraycopyName, Cond.native arraycopyName, Cond.static arraycopyName, Cond.initialized "java/lang/System", Cond.fieldLink RX5 15 "BowedPlate$State" "clampColumns" "[I", Cond.fieldLink RX5 18 "BowedPlate$State" "clampRows" "[I", Cond.fieldLink RX5 21 "BowedPlate$State" "clamps" "I", Cond.fieldLink RX5 25 "BowedPlate$State" "settings" "[I", Cond.fieldLink RX5 33 "BowedPlate$State" "piece" "LBowedPlate$Piece;", Cond.fieldLink RX5 37 "BowedPlate$State" "lastWay" "I", Cond.fieldLink RX5 40 "BowedPlate$State" "strewn" "I", Cond.fieldLink RX5 43 "BowedPlate$State" "swept" "I", Cond.fieldLink RX5 46 "BowedPlate$State" "fallen" "I", Cond.fieldLink RX5 49 "BowedPlate$State" "strokes" "I", Cond.fieldLink RX5 52 "BowedPlate$State" "mutes" "I"]
def wsX2_record_r2 : List Cond := [Cond.methodLink RX5 67 yX4_copyFrom, Cond.instanceMethod yX4_copyFrom, Cond.selects RX4 yX4_copyFrom yX4_copyFrom, Cond.initialized RX4, Cond.code yX4_copyFrom cX4_copyFrom 2 none, Cond.fieldLink RX4 7 "BowedPlate$Piece" "size" "I", Cond.methodLink RX4 36 yX4_appendAll, Cond.instanceMethod yX4_appendAll, Cond.selects RX4 yX4_appendAll yX4_appendAll, Cond.code yX4_appendAll cX4_appendAll 3 none, Cond.fieldLink RX4 22 "BowedPlate$Piece" "sides" "[I", Cond.fieldLink RX4 26 "BowedPlate$Piece" "alongs" "[I", Cond.fieldLink RX4 29 "BowedPlate$Piece" "strokes" "[I", Cond.methodLink RX4 32 yX4_append, Cond.instanceMethod yX4_append, Cond.selects RX4 yX4_append yX4_append, Cond.code yX4_append cX4_append 4 none, Cond.fieldLink RX4 19 "BowedPlate$Piece" "limit" "I"]
def wsX2_record : List Cond := .code yX2_record cX2_record 3 none :: ((wsX2_record_r1 ++ wsX2_record_r2) ++ wsX20 ++ wsX50 ++ wsX40)
def wsX2_takeLatest_r1 : List Cond := [Cond.fieldLink RX2 21 "BowedPlate$History" "held" "I", Cond.fieldLink RX2 11 "BowedPlate$History" "states" "[LBowedPlate$State;", Cond.fieldLink RX2 17 "BowedPlate$History" "oldest" "I", Cond.methodLink RX2 25 yX5_copyFrom, Cond.instanceMethod yX5_copyFrom, Cond.selects RX5 yX5_copyFrom yX5_copyFrom, Cond.initialized RX5, Cond.code yX5_copyFrom cX5_copyFrom 2 none, Cond.fieldLink RX5 9 "BowedPlate$State" "grains" "[I", Cond.methodLink RX5 61 arraycopyName, Cond.native arraycopyName, Cond.static arraycopyName, Cond.initialized "java/lang/System", Cond.fieldLink RX5 15 "BowedPlate$State" "clampColumns" "[I", Cond.fieldLink RX5 18 "BowedPlate$State" "clampRows" "[I", Cond.fieldLink RX5 21 "BowedPlate$State" "clamps" "I", Cond.fieldLink RX5 25 "BowedPlate$State" "settings" "[I", Cond.fieldLink RX5 33 "BowedPlate$State" "piece" "LBowedPlate$Piece;", Cond.fieldLink RX5 37 "BowedPlate$State" "lastWay" "I", Cond.fieldLink RX5 40 "BowedPlate$State" "strewn" "I", Cond.fieldLink RX5 43 "BowedPlate$State" "swept" "I", Cond.fieldLink RX5 46 "BowedPlate$State" "fallen" "I", Cond.fieldLink RX5 49 "BowedPlate$State" "strokes" "I", Cond.fieldLink RX5 52 "BowedPlate$State" "mutes" "I"]
def wsX2_takeLatest_r2 : List Cond := [Cond.methodLink RX5 67 yX4_copyFrom, Cond.instanceMethod yX4_copyFrom, Cond.selects RX4 yX4_copyFrom yX4_copyFrom, Cond.initialized RX4, Cond.code yX4_copyFrom cX4_copyFrom 2 none, Cond.fieldLink RX4 7 "BowedPlate$Piece" "size" "I", Cond.methodLink RX4 36 yX4_appendAll, Cond.instanceMethod yX4_appendAll, Cond.selects RX4 yX4_appendAll yX4_appendAll, Cond.code yX4_appendAll cX4_appendAll 3 none, Cond.fieldLink RX4 22 "BowedPlate$Piece" "sides" "[I", Cond.fieldLink RX4 26 "BowedPlate$Piece" "alongs" "[I", Cond.fieldLink RX4 29 "BowedPlate$Piece" "strokes" "[I", Cond.methodLink RX4 32 yX4_append, Cond.instanceMethod yX4_append, Cond.selects RX4 yX4_append yX4_append, Cond.code yX4_append cX4_append 4 none, Cond.fieldLink RX4 19 "BowedPlate$Piece" "limit" "I"]
def wsX2_takeLatest : List Cond := .code yX2_takeLatest cX2_takeLatest 3 none :: ((wsX2_takeLatest_r1 ++ wsX2_takeLatest_r2) ++ wsX20 ++ wsX50 ++ wsX40)
def wsX3_init : List Cond := .code yX3_init cX3_init 3 none :: ([.methodLink RX3 3 objectInit, .instanceMethod objectInit, .code objectInit ⟨#[0xb1]⟩ 1 none, .arrayClass .int, .fieldLink RX3 9 "BowedPlate$Mover" "swings" "[I", .fieldLink RX3 15 "BowedPlate$Mover" "targets" "[I", .fieldLink RX3 18 "BowedPlate$Mover" "arrivals" "[I", .fieldLink RX3 21 "BowedPlate$Mover" "ways" "LBowedPlate$Ways;", .fieldLink RX3 25 "BowedPlate$Mover" "now" "LBowedPlate$State;"] ++ wsX30)
def wsX3_calmerOf : List Cond := .code yX3_calmerOf cX3_calmerOf 4 (some .int) :: ([.fieldLink RX3 9 "BowedPlate$Mover" "swings" "[I", .static yX8_isPlace, .initialized RX8, .code yX8_isPlace cX8_isPlace 2 (some .boolean), .static yX8_placeOf, .code yX8_placeOf cX8_placeOf 2 (some .int)] ++ wsX30)
def wsX3_targetOf : List Cond := .code yX3_targetOf cX3_targetOf 4 (some .int) :: ([.static yX8_placeOf, .initialized RX8, .code yX8_placeOf cX8_placeOf 2 (some .int), .methodLink RX3 52 yX3_calmerOf, .instanceMethod yX3_calmerOf, .selects RX3 yX3_calmerOf yX3_calmerOf, .initialized RX3, .code yX3_calmerOf cX3_calmerOf 4 (some .int), .fieldLink RX3 9 "BowedPlate$Mover" "swings" "[I", .static yX8_isPlace, .code yX8_isPlace cX8_isPlace 2 (some .boolean)] ++ wsX30)
def wsX3_isAtEdge : List Cond := .code yX3_isAtEdge cX3_isAtEdge 3 (some .boolean) :: ([.static yX8_columnOf, .initialized RX8, .code yX8_columnOf cX8_columnOf 1 (some .int), .static yX8_rowOf, .code yX8_rowOf cX8_rowOf 1 (some .int)])
def wsX3_shake : List Cond := .code yX3_shake cX3_shake 3 none :: ([.fieldLink RX3 25 "BowedPlate$Mover" "now" "LBowedPlate$State;", .fieldLink RX3 9 "BowedPlate$Mover" "swings" "[I", .fieldLink RX3 18 "BowedPlate$Mover" "arrivals" "[I", .fieldLink RX3 15 "BowedPlate$Mover" "targets" "[I", .methodLink RX3 71 yX3_isAtEdge, .static yX3_isAtEdge, .initialized RX3, .code yX3_isAtEdge cX3_isAtEdge 3 (some .boolean), .static yX8_columnOf, .initialized RX8, .code yX8_columnOf cX8_columnOf 1 (some .int), .static yX8_rowOf, .code yX8_rowOf cX8_rowOf 1 (some .int)] ++ wsX30 ++ wsX50)
def wsX3_strokeOnce : List Cond := .code yX3_strokeOnce cX3_strokeOnce 2 none :: ([.fieldLink RX3 18 "BowedPlate$Mover" "arrivals" "[I", .fieldLink RX3 9 "BowedPlate$Mover" "swings" "[I", .fieldLink RX3 25 "BowedPlate$Mover" "now" "LBowedPlate$State;", .methodLink RX3 67 yX3_shake, .instanceMethod yX3_shake, .selects RX3 yX3_shake yX3_shake, .initialized RX3, .code yX3_shake cX3_shake 3 none, .fieldLink RX3 15 "BowedPlate$Mover" "targets" "[I", .methodLink RX3 71 yX3_isAtEdge, .static yX3_isAtEdge, .code yX3_isAtEdge cX3_isAtEdge 3 (some .boolean), .static yX8_columnOf, .initialized RX8, .code yX8_columnOf cX8_columnOf 1 (some .int), .static yX8_rowOf, .code yX8_rowOf cX8_rowOf 1 (some .int)] ++ wsX30 ++ wsX50)
def wsX3_stroke_r1 : List Cond := [Cond.fieldLink RX3 9 "BowedPlate$Mover" "swings" "[I", Cond.fieldLink RX3 21 "BowedPlate$Mover" "ways" "LBowedPlate$Ways;", Cond.fieldLink RX3 15 "BowedPlate$Mover" "targets" "[I", Cond.static yX8_columnOf, Cond.initialized RX8, Cond.code yX8_columnOf cX8_columnOf 1 (some .int), Cond.static yX8_rowOf, Cond.code yX8_rowOf cX8_rowOf 1 (some .int), Cond.methodLink RX3 36 yX7_swingAt, Cond.instanceMethod yX7_swingAt, Cond.selects RX7 yX7_swingAt yX7_swingAt, Cond.initialized RX7, Cond.code yX7_swingAt cX7_swingAt 8 (some .int), Cond.fieldLink RX7 9 "BowedPlate$Ways" "lesser" "[I", Cond.fieldLink RX7 15 "BowedPlate$Ways" "greater" "[I", Cond.fieldLink RX7 21 "BowedPlate$Ways" "heights" "[I", Cond.fieldLink RX7 18 "BowedPlate$Ways" "sign" "[I", Cond.methodLink RX7 44 Lib.Math.abs.name, Cond.static Lib.Math.abs.name, Cond.initialized "java/lang/Math", Cond.code Lib.Math.abs.name Lib.Math.abs.code 1 (some .int), Cond.static yX8_isWay, Cond.code yX8_isWay cX8_isWay 1 (some .boolean), Cond.static yX8_isPlace]
def wsX3_stroke_r2 : List Cond := [Cond.code yX8_isPlace cX8_isPlace 2 (some .boolean), Cond.methodLink RX3 42 yX3_targetOf, Cond.instanceMethod yX3_targetOf, Cond.selects RX3 yX3_targetOf yX3_targetOf, Cond.initialized RX3, Cond.code yX3_targetOf cX3_targetOf 4 (some .int), Cond.static yX8_placeOf, Cond.code yX8_placeOf cX8_placeOf 2 (some .int), Cond.methodLink RX3 52 yX3_calmerOf, Cond.instanceMethod yX3_calmerOf, Cond.selects RX3 yX3_calmerOf yX3_calmerOf, Cond.code yX3_calmerOf cX3_calmerOf 4 (some .int), Cond.methodLink RX3 46 yX3_strokeOnce, Cond.instanceMethod yX3_strokeOnce, Cond.selects RX3 yX3_strokeOnce yX3_strokeOnce, Cond.code yX3_strokeOnce cX3_strokeOnce 2 none, Cond.fieldLink RX3 18 "BowedPlate$Mover" "arrivals" "[I", Cond.fieldLink RX3 25 "BowedPlate$Mover" "now" "LBowedPlate$State;", Cond.methodLink RX3 67 yX3_shake, Cond.instanceMethod yX3_shake, Cond.selects RX3 yX3_shake yX3_shake, Cond.code yX3_shake cX3_shake 3 none, Cond.methodLink RX3 71 yX3_isAtEdge, Cond.static yX3_isAtEdge]
def wsX3_stroke_r3 : List Cond := [Cond.code yX3_isAtEdge cX3_isAtEdge 3 (some .boolean)]
def wsX3_stroke : List Cond := .code yX3_stroke cX3_stroke 4 none :: ((wsX3_stroke_r1 ++ (wsX3_stroke_r2 ++ wsX3_stroke_r3)) ++ wsX30 ++ wsX70 ++ wsX50)
def wsX4_dropFirst : List Cond := .code yX4_dropFirst cX4_dropFirst 4 none :: ([.fieldLink RX4 7 "BowedPlate$Piece" "size" "I", .methodLink RX4 13 Lib.Math.max.name, .static Lib.Math.max.name, .initialized "java/lang/Math", .code Lib.Math.max.name Lib.Math.max.code 2 (some .int), .fieldLink RX4 22 "BowedPlate$Piece" "sides" "[I", .fieldLink RX4 26 "BowedPlate$Piece" "alongs" "[I", .fieldLink RX4 29 "BowedPlate$Piece" "strokes" "[I", .methodLink RX4 32 yX4_append, .instanceMethod yX4_append, .selects RX4 yX4_append yX4_append, .initialized RX4, .code yX4_append cX4_append 4 none, .fieldLink RX4 19 "BowedPlate$Piece" "limit" "I"] ++ wsX40)
def wsX4_sizeAt : List Cond := .code yX4_sizeAt cX4_sizeAt 4 (some .int) :: ([.fieldLink RX4 7 "BowedPlate$Piece" "size" "I", .fieldLink RX4 22 "BowedPlate$Piece" "sides" "[I"] ++ wsX40)
def wsX4_dropSide : List Cond := .code yX4_dropSide cX4_dropSide 4 (some .int) :: ([.fieldLink RX4 7 "BowedPlate$Piece" "size" "I", .fieldLink RX4 22 "BowedPlate$Piece" "sides" "[I", .fieldLink RX4 26 "BowedPlate$Piece" "alongs" "[I", .fieldLink RX4 29 "BowedPlate$Piece" "strokes" "[I", .methodLink RX4 32 yX4_append, .instanceMethod yX4_append, .selects RX4 yX4_append yX4_append, .initialized RX4, .code yX4_append cX4_append 4 none, .fieldLink RX4 19 "BowedPlate$Piece" "limit" "I"] ++ wsX40)
def wsX5_allGrains : List Cond := .code yX5_allGrains cX5_allGrains 3 (some .int) :: ([.fieldLink RX5 9 "BowedPlate$State" "grains" "[I"] ++ wsX50)
def wsX5_mostGrains : List Cond := .code yX5_mostGrains cX5_mostGrains 3 (some .int) :: ([.fieldLink RX5 9 "BowedPlate$State" "grains" "[I", .methodLink RX5 71 Lib.Math.max.name, .static Lib.Math.max.name, .initialized "java/lang/Math", .code Lib.Math.max.name Lib.Math.max.code 2 (some .int)] ++ wsX50)
def wsX5_clampOn : List Cond := .code yX5_clampOn cX5_clampOn 4 (some .int) :: ([.fieldLink RX5 21 "BowedPlate$State" "clamps" "I", .fieldLink RX5 15 "BowedPlate$State" "clampColumns" "[I", .fieldLink RX5 18 "BowedPlate$State" "clampRows" "[I"] ++ wsX50)
def wsX5_dropClamp : List Cond := .code yX5_dropClamp cX5_dropClamp 3 none :: ([.fieldLink RX5 21 "BowedPlate$State" "clamps" "I", .fieldLink RX5 15 "BowedPlate$State" "clampColumns" "[I", .fieldLink RX5 18 "BowedPlate$State" "clampRows" "[I"] ++ wsX50)
def wsX6_init_r1 : List Cond := [Cond.methodLink RX6 3 objectInit, Cond.instanceMethod objectInit, Cond.code objectInit ⟨#[0xb1]⟩ 1 none, Cond.arrayClass .char, Cond.fieldLink RX6 9 "BowedPlate$Text" "characters" "[C", Cond.fieldLink RX6 15 "BowedPlate$Text" "length" "I", Cond.classLink RX6 19 RX4, Cond.instantiable RX4 5, Cond.initialized RX4, Cond.fieldLink RX6 24 "BowedPlate$Text" "piece" "LBowedPlate$Piece;", Cond.fieldLink RX6 28 "BowedPlate$Text" "cursor" "I", Cond.methodLink RX6 21 yX4_init, Cond.instanceMethod yX4_init, Cond.code yX4_init cX4_init 2 none, Cond.methodLink RX4 1 objectInit, Cond.fieldLink RX4 7 "BowedPlate$Piece" "size" "I", Cond.methodLink RX4 13 Lib.Math.max.name, Cond.static Lib.Math.max.name, Cond.initialized "java/lang/Math", Cond.code Lib.Math.max.name Lib.Math.max.code 2 (some .int), Cond.fieldLink RX4 19 "BowedPlate$Piece" "limit" "I", Cond.arrayClass .int, Cond.fieldLink RX4 22 "BowedPlate$Piece" "sides" "[I", Cond.fieldLink RX4 26 "BowedPlate$Piece" "alongs" "[I"]
def wsX6_init_r2 : List Cond := [Cond.fieldLink RX4 29 "BowedPlate$Piece" "strokes" "[I"]
def wsX6_init : List Cond := .code yX6_init cX6_init 1 none :: ((wsX6_init_r1 ++ wsX6_init_r2) ++ wsX60 ++ wsX40)
def wsX6_append : List Cond := .code yX6_append cX6_append 2 none :: ([.fieldLink RX6 15 "BowedPlate$Text" "length" "I", .fieldLink RX6 9 "BowedPlate$Text" "characters" "[C"] ++ wsX60)
def wsX6_next : List Cond := .code yX6_next cX6_next 2 (some .int) :: ([.fieldLink RX6 28 "BowedPlate$Text" "cursor" "I", .fieldLink RX6 15 "BowedPlate$Text" "length" "I", .fieldLink RX6 9 "BowedPlate$Text" "characters" "[C"] ++ wsX60)
def wsX6_sideOf : List Cond := .code yX6_sideOf cX6_sideOf 1 (some .int) :: ([])
def wsX6_digitOf : List Cond := .code yX6_digitOf cX6_digitOf 1 (some .int) :: ([])
def wsX6_readNumber : List Cond := .code yX6_readNumber cX6_readNumber 6 (some .int) :: ([.fieldLink RX6 28 "BowedPlate$Text" "cursor" "I", .methodLink RX6 38 yX6_next, .instanceMethod yX6_next, .selects RX6 yX6_next yX6_next, .initialized RX6, .code yX6_next cX6_next 2 (some .int), .fieldLink RX6 15 "BowedPlate$Text" "length" "I", .fieldLink RX6 9 "BowedPlate$Text" "characters" "[C", .methodLink RX6 54 yX6_digitOf, .static yX6_digitOf, .code yX6_digitOf cX6_digitOf 1 (some .int)] ++ wsX60)
def wsX6_readBowing_r1 : List Cond := [Cond.fieldLink RX6 28 "BowedPlate$Text" "cursor" "I", Cond.fieldLink RX6 24 "BowedPlate$Text" "piece" "LBowedPlate$Piece;", Cond.methodLink RX6 38 yX6_next, Cond.instanceMethod yX6_next, Cond.selects RX6 yX6_next yX6_next, Cond.initialized RX6, Cond.code yX6_next cX6_next 2 (some .int), Cond.fieldLink RX6 15 "BowedPlate$Text" "length" "I", Cond.fieldLink RX6 9 "BowedPlate$Text" "characters" "[C", Cond.methodLink RX6 42 yX6_sideOf, Cond.static yX6_sideOf, Cond.code yX6_sideOf cX6_sideOf 1 (some .int), Cond.methodLink RX6 46 yX6_readNumber, Cond.instanceMethod yX6_readNumber, Cond.selects RX6 yX6_readNumber yX6_readNumber, Cond.code yX6_readNumber cX6_readNumber 6 (some .int), Cond.methodLink RX6 54 yX6_digitOf, Cond.static yX6_digitOf, Cond.code yX6_digitOf cX6_digitOf 1 (some .int), Cond.methodLink RX6 50 yX4_append, Cond.instanceMethod yX4_append, Cond.selects RX4 yX4_append yX4_append, Cond.initialized RX4, Cond.code yX4_append cX4_append 4 none]
def wsX6_readBowing_r2 : List Cond := [Cond.fieldLink RX4 7 "BowedPlate$Piece" "size" "I", Cond.fieldLink RX4 19 "BowedPlate$Piece" "limit" "I", Cond.fieldLink RX4 22 "BowedPlate$Piece" "sides" "[I", Cond.fieldLink RX4 26 "BowedPlate$Piece" "alongs" "[I", Cond.fieldLink RX4 29 "BowedPlate$Piece" "strokes" "[I"]
def wsX6_readBowing : List Cond := .code yX6_readBowing cX6_readBowing 4 (some .boolean) :: ((wsX6_readBowing_r1 ++ wsX6_readBowing_r2) ++ wsX60 ++ wsX40)
def wsX6_read_r1 : List Cond := [Cond.fieldLink RX6 28 "BowedPlate$Text" "cursor" "I", Cond.fieldLink RX6 24 "BowedPlate$Text" "piece" "LBowedPlate$Piece;", Cond.methodLink RX6 34 yX6_readBowing, Cond.instanceMethod yX6_readBowing, Cond.selects RX6 yX6_readBowing yX6_readBowing, Cond.initialized RX6, Cond.code yX6_readBowing cX6_readBowing 4 (some .boolean), Cond.methodLink RX6 38 yX6_next, Cond.instanceMethod yX6_next, Cond.selects RX6 yX6_next yX6_next, Cond.code yX6_next cX6_next 2 (some .int), Cond.fieldLink RX6 15 "BowedPlate$Text" "length" "I", Cond.fieldLink RX6 9 "BowedPlate$Text" "characters" "[C", Cond.methodLink RX6 42 yX6_sideOf, Cond.static yX6_sideOf, Cond.code yX6_sideOf cX6_sideOf 1 (some .int), Cond.methodLink RX6 46 yX6_readNumber, Cond.instanceMethod yX6_readNumber, Cond.selects RX6 yX6_readNumber yX6_readNumber, Cond.code yX6_readNumber cX6_readNumber 6 (some .int), Cond.methodLink RX6 54 yX6_digitOf, Cond.static yX6_digitOf, Cond.code yX6_digitOf cX6_digitOf 1 (some .int), Cond.methodLink RX6 50 yX4_append]
def wsX6_read_r2 : List Cond := [Cond.instanceMethod yX4_append, Cond.selects RX4 yX4_append yX4_append, Cond.initialized RX4, Cond.code yX4_append cX4_append 4 none, Cond.fieldLink RX4 7 "BowedPlate$Piece" "size" "I", Cond.fieldLink RX4 19 "BowedPlate$Piece" "limit" "I", Cond.fieldLink RX4 22 "BowedPlate$Piece" "sides" "[I", Cond.fieldLink RX4 26 "BowedPlate$Piece" "alongs" "[I", Cond.fieldLink RX4 29 "BowedPlate$Piece" "strokes" "[I"]
def wsX6_read : List Cond := .code yX6_read cX6_read 2 (some .boolean) :: ((wsX6_read_r1 ++ wsX6_read_r2) ++ wsX60 ++ wsX40)
def wsX6_fault : List Cond := .code yX6_fault cX6_fault 1 (some .int) :: ([.fieldLink RX6 28 "BowedPlate$Text" "cursor" "I"] ++ wsX60)
def wsX7_waveHeight : List Cond := .code yX7_waveHeight cX7_waveHeight 3 (some .int) :: ([])
def wsX7_listWaysOf : List Cond := .code yX7_listWaysOf cX7_listWaysOf 5 none :: ([.fieldLink RX7 24 "BowedPlate$Ways" "listed" "I", .fieldLink RX7 9 "BowedPlate$Ways" "lesser" "[I", .fieldLink RX7 15 "BowedPlate$Ways" "greater" "[I", .fieldLink RX7 18 "BowedPlate$Ways" "sign" "[I"] ++ wsX70)
def wsX7_init : List Cond := .code yX7_init cX7_init 3 none :: ([.methodLink RX7 3 objectInit, .instanceMethod objectInit, .code objectInit ⟨#[0xb1]⟩ 1 none, .arrayClass .int, .fieldLink RX7 9 "BowedPlate$Ways" "lesser" "[I", .fieldLink RX7 15 "BowedPlate$Ways" "greater" "[I", .fieldLink RX7 18 "BowedPlate$Ways" "sign" "[I", .fieldLink RX7 21 "BowedPlate$Ways" "heights" "[I", .fieldLink RX7 24 "BowedPlate$Ways" "listed" "I", .methodLink RX7 28 yX7_waveHeight, .static yX7_waveHeight, .initialized RX7, .code yX7_waveHeight cX7_waveHeight 3 (some .int), .methodLink RX7 32 yX7_listWaysOf, .instanceMethod yX7_listWaysOf, .selects RX7 yX7_listWaysOf yX7_listWaysOf, .code yX7_listWaysOf cX7_listWaysOf 5 none] ++ wsX70)
def wsX7_noteOf : List Cond := .code yX7_noteOf cX7_noteOf 2 (some .int) :: ([.fieldLink RX7 9 "BowedPlate$Ways" "lesser" "[I", .fieldLink RX7 15 "BowedPlate$Ways" "greater" "[I", .fieldLink RX7 18 "BowedPlate$Ways" "sign" "[I", .static yX8_isWay, .initialized RX8, .code yX8_isWay cX8_isWay 1 (some .boolean)] ++ wsX70)
def wsX8_init_r1 : List Cond := [Cond.methodLink RX8 3 objectInit, Cond.instanceMethod objectInit, Cond.code objectInit ⟨#[0xb1]⟩ 1 none, Cond.classLink RX8 9 RX7, Cond.instantiable RX7 5, Cond.initialized RX7, Cond.fieldLink RX8 12 "BowedPlate" "ways" "LBowedPlate$Ways;", Cond.classLink RX8 16 RX5, Cond.instantiable RX5 12, Cond.initialized RX5, Cond.fieldLink RX8 19 "BowedPlate" "now" "LBowedPlate$State;", Cond.classLink RX8 23 RX0, Cond.instantiable RX0 5, Cond.initialized RX0, Cond.fieldLink RX8 28 "BowedPlate" "choice" "LBowedPlate$Choice;", Cond.classLink RX8 32 RX1, Cond.instantiable RX1 5, Cond.initialized RX1, Cond.fieldLink RX8 35 "BowedPlate" "figure" "LBowedPlate$Figure;", Cond.classLink RX8 39 RX3, Cond.instantiable RX3 5, Cond.initialized RX3, Cond.fieldLink RX8 42 "BowedPlate" "mover" "LBowedPlate$Mover;", Cond.classLink RX8 46 RX6]
def wsX8_init_r2 : List Cond := [Cond.instantiable RX6 4, Cond.initialized RX6, Cond.fieldLink RX8 49 "BowedPlate" "text" "LBowedPlate$Text;", Cond.classLink RX8 53 RX2, Cond.instantiable RX2 3, Cond.initialized RX2, Cond.fieldLink RX8 56 "BowedPlate" "history" "LBowedPlate$History;", Cond.fieldLink RX8 60 "BowedPlate" "snapshot" "LBowedPlate$State;", Cond.fieldLink RX8 63 "BowedPlate" "hasSnapshot" "Z", Cond.methodLink RX8 11 yX7_init, Cond.instanceMethod yX7_init, Cond.code yX7_init cX7_init 3 none, Cond.methodLink RX7 3 objectInit, Cond.arrayClass .int, Cond.fieldLink RX7 9 "BowedPlate$Ways" "lesser" "[I", Cond.fieldLink RX7 15 "BowedPlate$Ways" "greater" "[I", Cond.fieldLink RX7 18 "BowedPlate$Ways" "sign" "[I", Cond.fieldLink RX7 21 "BowedPlate$Ways" "heights" "[I", Cond.fieldLink RX7 24 "BowedPlate$Ways" "listed" "I", Cond.methodLink RX7 28 yX7_waveHeight, Cond.static yX7_waveHeight, Cond.code yX7_waveHeight cX7_waveHeight 3 (some .int), Cond.methodLink RX7 32 yX7_listWaysOf, Cond.instanceMethod yX7_listWaysOf]
def wsX8_init_r3 : List Cond := [Cond.selects RX7 yX7_listWaysOf yX7_listWaysOf, Cond.code yX7_listWaysOf cX7_listWaysOf 5 none, Cond.methodLink RX8 18 yX5_init, Cond.instanceMethod yX5_init, Cond.code yX5_init cX5_init 1 none, Cond.methodLink RX5 3 objectInit, Cond.fieldLink RX5 9 "BowedPlate$State" "grains" "[I", Cond.fieldLink RX5 15 "BowedPlate$State" "clampColumns" "[I", Cond.fieldLink RX5 18 "BowedPlate$State" "clampRows" "[I", Cond.fieldLink RX5 21 "BowedPlate$State" "clamps" "I", Cond.fieldLink RX5 25 "BowedPlate$State" "settings" "[I", Cond.classLink RX5 28 RX4, Cond.instantiable RX4 5, Cond.initialized RX4, Cond.fieldLink RX5 33 "BowedPlate$State" "piece" "LBowedPlate$Piece;", Cond.fieldLink RX5 37 "BowedPlate$State" "lastWay" "I", Cond.fieldLink RX5 40 "BowedPlate$State" "strewn" "I", Cond.fieldLink RX5 43 "BowedPlate$State" "swept" "I", Cond.fieldLink RX5 46 "BowedPlate$State" "fallen" "I", Cond.fieldLink RX5 49 "BowedPlate$State" "strokes" "I", Cond.fieldLink RX5 52 "BowedPlate$State" "mutes" "I", Cond.methodLink RX5 61 arraycopyName, Cond.native arraycopyName, Cond.static arraycopyName]
def wsX8_init_r4 : List Cond := [Cond.initialized "java/lang/System", Cond.methodLink RX5 30 yX4_init, Cond.instanceMethod yX4_init, Cond.code yX4_init cX4_init 2 none, Cond.methodLink RX4 1 objectInit, Cond.fieldLink RX4 7 "BowedPlate$Piece" "size" "I", Cond.methodLink RX4 13 Lib.Math.max.name, Cond.static Lib.Math.max.name, Cond.initialized "java/lang/Math", Cond.code Lib.Math.max.name Lib.Math.max.code 2 (some .int), Cond.fieldLink RX4 19 "BowedPlate$Piece" "limit" "I", Cond.fieldLink RX4 22 "BowedPlate$Piece" "sides" "[I", Cond.fieldLink RX4 26 "BowedPlate$Piece" "alongs" "[I", Cond.fieldLink RX4 29 "BowedPlate$Piece" "strokes" "[I", Cond.methodLink RX5 55 yX5_coverWith, Cond.instanceMethod yX5_coverWith, Cond.selects RX5 yX5_coverWith yX5_coverWith, Cond.code yX5_coverWith cX5_coverWith 3 none, Cond.methodLink RX8 25 yX0_init, Cond.instanceMethod yX0_init, Cond.code yX0_init cX0_init 3 none, Cond.methodLink RX0 3 objectInit, Cond.fieldLink RX0 9 "BowedPlate$Choice" "possibleWay" "[I", Cond.fieldLink RX0 15 "BowedPlate$Choice" "possibleWays" "I"]
def wsX8_init_r5 : List Cond := [Cond.arrayClass .boolean, Cond.fieldLink RX0 19 "BowedPlate$Choice" "isTaken" "[Z", Cond.fieldLink RX0 23 "BowedPlate$Choice" "ways" "LBowedPlate$Ways;", Cond.fieldLink RX0 27 "BowedPlate$Choice" "now" "LBowedPlate$State;", Cond.methodLink RX8 34 yX1_init, Cond.instanceMethod yX1_init, Cond.code yX1_init cX1_init 3 none, Cond.methodLink RX1 3 objectInit, Cond.fieldLink RX1 9 "BowedPlate$Figure" "isOpen" "[Z", Cond.fieldLink RX1 15 "BowedPlate$Figure" "reached" "[I", Cond.fieldLink RX1 19 "BowedPlate$Figure" "reaches" "I", Cond.fieldLink RX1 23 "BowedPlate$Figure" "ways" "LBowedPlate$Ways;", Cond.fieldLink RX1 27 "BowedPlate$Figure" "now" "LBowedPlate$State;", Cond.methodLink RX8 41 yX3_init, Cond.instanceMethod yX3_init, Cond.code yX3_init cX3_init 3 none, Cond.methodLink RX3 3 objectInit, Cond.fieldLink RX3 9 "BowedPlate$Mover" "swings" "[I", Cond.fieldLink RX3 15 "BowedPlate$Mover" "targets" "[I", Cond.fieldLink RX3 18 "BowedPlate$Mover" "arrivals" "[I", Cond.fieldLink RX3 21 "BowedPlate$Mover" "ways" "LBowedPlate$Ways;", Cond.fieldLink RX3 25 "BowedPlate$Mover" "now" "LBowedPlate$State;", Cond.instanceMethod yX6_init, Cond.code yX6_init cX6_init 1 none]
def wsX8_init_r6 : List Cond := [Cond.methodLink RX6 3 objectInit, Cond.arrayClass .char, Cond.fieldLink RX6 9 "BowedPlate$Text" "characters" "[C", Cond.fieldLink RX6 15 "BowedPlate$Text" "length" "I", Cond.classLink RX6 19 RX4, Cond.fieldLink RX6 24 "BowedPlate$Text" "piece" "LBowedPlate$Piece;", Cond.fieldLink RX6 28 "BowedPlate$Text" "cursor" "I", Cond.methodLink RX6 21 yX4_init, Cond.methodLink RX8 55 yX2_init, Cond.instanceMethod yX2_init, Cond.code yX2_init cX2_init 2 none, Cond.methodLink RX2 3 objectInit, Cond.classLink RX2 9 RX5, Cond.fieldLink RX2 11 "BowedPlate$History" "states" "[LBowedPlate$State;", Cond.fieldLink RX2 17 "BowedPlate$History" "oldest" "I", Cond.fieldLink RX2 21 "BowedPlate$History" "held" "I", Cond.methodLink RX2 24 yX5_init]
def wsX8_init : List Cond := .code yX8_init cX8_init 1 none :: ((wsX8_init_r1 ++ (wsX8_init_r2 ++ (wsX8_init_r3 ++ (wsX8_init_r4 ++ (wsX8_init_r5 ++ wsX8_init_r6))))) ++ wsX70 ++ wsX80 ++ wsX50 ++ wsX00 ++ wsX10 ++ wsX30 ++ wsX60 ++ wsX20 ++ wsX40)
def wsX8_strew_r1 : List Cond := [Cond.fieldLink RX8 56 "BowedPlate" "history" "LBowedPlate$History;", Cond.fieldLink RX8 19 "BowedPlate" "now" "LBowedPlate$State;", Cond.methodLink RX8 67 yX8_isPlace, Cond.static yX8_isPlace, Cond.initialized RX8, Cond.code yX8_isPlace cX8_isPlace 2 (some .boolean), Cond.methodLink RX8 71 yX2_record, Cond.instanceMethod yX2_record, Cond.selects RX2 yX2_record yX2_record, Cond.initialized RX2, Cond.code yX2_record cX2_record 3 none, Cond.fieldLink RX2 21 "BowedPlate$History" "held" "I", Cond.fieldLink RX2 17 "BowedPlate$History" "oldest" "I", Cond.fieldLink RX2 11 "BowedPlate$History" "states" "[LBowedPlate$State;", Cond.methodLink RX2 25 yX5_copyFrom, Cond.instanceMethod yX5_copyFrom, Cond.selects RX5 yX5_copyFrom yX5_copyFrom, Cond.initialized RX5, Cond.code yX5_copyFrom cX5_copyFrom 2 none, Cond.fieldLink RX5 9 "BowedPlate$State" "grains" "[I", Cond.methodLink RX5 61 arraycopyName, Cond.native arraycopyName, Cond.static arraycopyName, Cond.initialized "java/lang/System"]
def wsX8_strew_r2 : List Cond := [Cond.fieldLink RX5 15 "BowedPlate$State" "clampColumns" "[I", Cond.fieldLink RX5 18 "BowedPlate$State" "clampRows" "[I", Cond.fieldLink RX5 21 "BowedPlate$State" "clamps" "I", Cond.fieldLink RX5 25 "BowedPlate$State" "settings" "[I", Cond.fieldLink RX5 33 "BowedPlate$State" "piece" "LBowedPlate$Piece;", Cond.fieldLink RX5 37 "BowedPlate$State" "lastWay" "I", Cond.fieldLink RX5 40 "BowedPlate$State" "strewn" "I", Cond.fieldLink RX5 43 "BowedPlate$State" "swept" "I", Cond.fieldLink RX5 46 "BowedPlate$State" "fallen" "I", Cond.fieldLink RX5 49 "BowedPlate$State" "strokes" "I", Cond.fieldLink RX5 52 "BowedPlate$State" "mutes" "I", Cond.methodLink RX5 67 yX4_copyFrom, Cond.instanceMethod yX4_copyFrom, Cond.selects RX4 yX4_copyFrom yX4_copyFrom, Cond.initialized RX4, Cond.code yX4_copyFrom cX4_copyFrom 2 none, Cond.fieldLink RX4 7 "BowedPlate$Piece" "size" "I", Cond.methodLink RX4 36 yX4_appendAll, Cond.instanceMethod yX4_appendAll, Cond.selects RX4 yX4_appendAll yX4_appendAll, Cond.code yX4_appendAll cX4_appendAll 3 none, Cond.fieldLink RX4 22 "BowedPlate$Piece" "sides" "[I", Cond.fieldLink RX4 26 "BowedPlate$Piece" "alongs" "[I", Cond.fieldLink RX4 29 "BowedPlate$Piece" "strokes" "[I"]
def wsX8_strew_r3 : List Cond := [Cond.methodLink RX4 32 yX4_append, Cond.instanceMethod yX4_append, Cond.selects RX4 yX4_append yX4_append, Cond.code yX4_append cX4_append 4 none, Cond.fieldLink RX4 19 "BowedPlate$Piece" "limit" "I", Cond.methodLink RX8 75 yX8_placeOf, Cond.static yX8_placeOf, Cond.code yX8_placeOf cX8_placeOf 2 (some .int)]
def wsX8_strew : List Cond := .code yX8_strew cX8_strew 5 (some .int) :: ((wsX8_strew_r1 ++ (wsX8_strew_r2 ++ wsX8_strew_r3)) ++ wsX80 ++ wsX50 ++ wsX20 ++ wsX40)
def wsX8_sweep_r1 : List Cond := [Cond.fieldLink RX8 56 "BowedPlate" "history" "LBowedPlate$History;", Cond.fieldLink RX8 19 "BowedPlate" "now" "LBowedPlate$State;", Cond.methodLink RX8 71 yX2_record, Cond.instanceMethod yX2_record, Cond.selects RX2 yX2_record yX2_record, Cond.initialized RX2, Cond.code yX2_record cX2_record 3 none, Cond.fieldLink RX2 21 "BowedPlate$History" "held" "I", Cond.fieldLink RX2 17 "BowedPlate$History" "oldest" "I", Cond.fieldLink RX2 11 "BowedPlate$History" "states" "[LBowedPlate$State;", Cond.methodLink RX2 25 yX5_copyFrom, Cond.instanceMethod yX5_copyFrom, Cond.selects RX5 yX5_copyFrom yX5_copyFrom, Cond.initialized RX5, Cond.code yX5_copyFrom cX5_copyFrom 2 none, Cond.fieldLink RX5 9 "BowedPlate$State" "grains" "[I", Cond.methodLink RX5 61 arraycopyName, Cond.native arraycopyName, Cond.static arraycopyName, Cond.initialized "java/lang/System", Cond.fieldLink RX5 15 "BowedPlate$State" "clampColumns" "[I", Cond.fieldLink RX5 18 "BowedPlate$State" "clampRows" "[I", Cond.fieldLink RX5 21 "BowedPlate$State" "clamps" "I", Cond.fieldLink RX5 25 "BowedPlate$State" "settings" "[I"]
def wsX8_sweep_r2 : List Cond := [Cond.fieldLink RX5 33 "BowedPlate$State" "piece" "LBowedPlate$Piece;", Cond.fieldLink RX5 37 "BowedPlate$State" "lastWay" "I", Cond.fieldLink RX5 40 "BowedPlate$State" "strewn" "I", Cond.fieldLink RX5 43 "BowedPlate$State" "swept" "I", Cond.fieldLink RX5 46 "BowedPlate$State" "fallen" "I", Cond.fieldLink RX5 49 "BowedPlate$State" "strokes" "I", Cond.fieldLink RX5 52 "BowedPlate$State" "mutes" "I", Cond.methodLink RX5 67 yX4_copyFrom, Cond.instanceMethod yX4_copyFrom, Cond.selects RX4 yX4_copyFrom yX4_copyFrom, Cond.initialized RX4, Cond.code yX4_copyFrom cX4_copyFrom 2 none, Cond.fieldLink RX4 7 "BowedPlate$Piece" "size" "I", Cond.methodLink RX4 36 yX4_appendAll, Cond.instanceMethod yX4_appendAll, Cond.selects RX4 yX4_appendAll yX4_appendAll, Cond.code yX4_appendAll cX4_appendAll 3 none, Cond.fieldLink RX4 22 "BowedPlate$Piece" "sides" "[I", Cond.fieldLink RX4 26 "BowedPlate$Piece" "alongs" "[I", Cond.fieldLink RX4 29 "BowedPlate$Piece" "strokes" "[I", Cond.methodLink RX4 32 yX4_append, Cond.instanceMethod yX4_append, Cond.selects RX4 yX4_append yX4_append, Cond.code yX4_append cX4_append 4 none]
def wsX8_sweep_r3 : List Cond := [Cond.fieldLink RX4 19 "BowedPlate$Piece" "limit" "I", Cond.methodLink RX8 87 yX5_allGrains, Cond.instanceMethod yX5_allGrains, Cond.selects RX5 yX5_allGrains yX5_allGrains, Cond.code yX5_allGrains cX5_allGrains 3 (some .int), Cond.methodLink RX8 94 yX5_coverWith, Cond.instanceMethod yX5_coverWith, Cond.selects RX5 yX5_coverWith yX5_coverWith, Cond.code yX5_coverWith cX5_coverWith 3 none]
def wsX8_sweep : List Cond := .code yX8_sweep cX8_sweep 3 (some .int) :: ((wsX8_sweep_r1 ++ (wsX8_sweep_r2 ++ wsX8_sweep_r3)) ++ wsX80 ++ wsX50 ++ wsX20 ++ wsX40)
def wsX8_clamp_r1 : List Cond := [Cond.fieldLink RX8 19 "BowedPlate" "now" "LBowedPlate$State;", Cond.fieldLink RX8 56 "BowedPlate" "history" "LBowedPlate$History;", Cond.methodLink RX8 67 yX8_isPlace, Cond.static yX8_isPlace, Cond.initialized RX8, Cond.code yX8_isPlace cX8_isPlace 2 (some .boolean), Cond.methodLink RX8 101 yX5_clampOn, Cond.instanceMethod yX5_clampOn, Cond.selects RX5 yX5_clampOn yX5_clampOn, Cond.initialized RX5, Cond.code yX5_clampOn cX5_clampOn 4 (some .int), Cond.fieldLink RX5 21 "BowedPlate$State" "clamps" "I", Cond.fieldLink RX5 15 "BowedPlate$State" "clampColumns" "[I", Cond.fieldLink RX5 18 "BowedPlate$State" "clampRows" "[I", Cond.methodLink RX8 71 yX2_record, Cond.instanceMethod yX2_record, Cond.selects RX2 yX2_record yX2_record, Cond.initialized RX2, Cond.code yX2_record cX2_record 3 none, Cond.fieldLink RX2 21 "BowedPlate$History" "held" "I", Cond.fieldLink RX2 17 "BowedPlate$History" "oldest" "I", Cond.fieldLink RX2 11 "BowedPlate$History" "states" "[LBowedPlate$State;", Cond.methodLink RX2 25 yX5_copyFrom, Cond.instanceMethod yX5_copyFrom]
def wsX8_clamp_r2 : List Cond := [Cond.selects RX5 yX5_copyFrom yX5_copyFrom, Cond.code yX5_copyFrom cX5_copyFrom 2 none, Cond.fieldLink RX5 9 "BowedPlate$State" "grains" "[I", Cond.methodLink RX5 61 arraycopyName, Cond.native arraycopyName, Cond.static arraycopyName, Cond.initialized "java/lang/System", Cond.fieldLink RX5 25 "BowedPlate$State" "settings" "[I", Cond.fieldLink RX5 33 "BowedPlate$State" "piece" "LBowedPlate$Piece;", Cond.fieldLink RX5 37 "BowedPlate$State" "lastWay" "I", Cond.fieldLink RX5 40 "BowedPlate$State" "strewn" "I", Cond.fieldLink RX5 43 "BowedPlate$State" "swept" "I", Cond.fieldLink RX5 46 "BowedPlate$State" "fallen" "I", Cond.fieldLink RX5 49 "BowedPlate$State" "strokes" "I", Cond.fieldLink RX5 52 "BowedPlate$State" "mutes" "I", Cond.methodLink RX5 67 yX4_copyFrom, Cond.instanceMethod yX4_copyFrom, Cond.selects RX4 yX4_copyFrom yX4_copyFrom, Cond.initialized RX4, Cond.code yX4_copyFrom cX4_copyFrom 2 none, Cond.fieldLink RX4 7 "BowedPlate$Piece" "size" "I", Cond.methodLink RX4 36 yX4_appendAll, Cond.instanceMethod yX4_appendAll, Cond.selects RX4 yX4_appendAll yX4_appendAll]
def wsX8_clamp_r3 : List Cond := [Cond.code yX4_appendAll cX4_appendAll 3 none, Cond.fieldLink RX4 22 "BowedPlate$Piece" "sides" "[I", Cond.fieldLink RX4 26 "BowedPlate$Piece" "alongs" "[I", Cond.fieldLink RX4 29 "BowedPlate$Piece" "strokes" "[I", Cond.methodLink RX4 32 yX4_append, Cond.instanceMethod yX4_append, Cond.selects RX4 yX4_append yX4_append, Cond.code yX4_append cX4_append 4 none, Cond.fieldLink RX4 19 "BowedPlate$Piece" "limit" "I"]
def wsX8_clamp : List Cond := .code yX8_clamp cX8_clamp 3 (some .int) :: ((wsX8_clamp_r1 ++ (wsX8_clamp_r2 ++ wsX8_clamp_r3)) ++ wsX80 ++ wsX50 ++ wsX20 ++ wsX40)
def wsX8_isClamp : List Cond := .code yX8_isClamp cX8_isClamp 2 (some .boolean) :: ([.fieldLink RX8 19 "BowedPlate" "now" "LBowedPlate$State;"] ++ wsX80 ++ wsX50)
def wsX8_unclamp_r1 : List Cond := [Cond.fieldLink RX8 56 "BowedPlate" "history" "LBowedPlate$History;", Cond.fieldLink RX8 19 "BowedPlate" "now" "LBowedPlate$State;", Cond.methodLink RX8 110 yX8_isClamp, Cond.instanceMethod yX8_isClamp, Cond.selects RX8 yX8_isClamp yX8_isClamp, Cond.initialized RX8, Cond.code yX8_isClamp cX8_isClamp 2 (some .boolean), Cond.methodLink RX8 71 yX2_record, Cond.instanceMethod yX2_record, Cond.selects RX2 yX2_record yX2_record, Cond.initialized RX2, Cond.code yX2_record cX2_record 3 none, Cond.fieldLink RX2 21 "BowedPlate$History" "held" "I", Cond.fieldLink RX2 17 "BowedPlate$History" "oldest" "I", Cond.fieldLink RX2 11 "BowedPlate$History" "states" "[LBowedPlate$State;", Cond.methodLink RX2 25 yX5_copyFrom, Cond.instanceMethod yX5_copyFrom, Cond.selects RX5 yX5_copyFrom yX5_copyFrom, Cond.initialized RX5, Cond.code yX5_copyFrom cX5_copyFrom 2 none, Cond.fieldLink RX5 9 "BowedPlate$State" "grains" "[I", Cond.methodLink RX5 61 arraycopyName, Cond.native arraycopyName, Cond.static arraycopyName]
def wsX8_unclamp_r2 : List Cond := [Cond.initialized "java/lang/System", Cond.fieldLink RX5 15 "BowedPlate$State" "clampColumns" "[I", Cond.fieldLink RX5 18 "BowedPlate$State" "clampRows" "[I", Cond.fieldLink RX5 21 "BowedPlate$State" "clamps" "I", Cond.fieldLink RX5 25 "BowedPlate$State" "settings" "[I", Cond.fieldLink RX5 33 "BowedPlate$State" "piece" "LBowedPlate$Piece;", Cond.fieldLink RX5 37 "BowedPlate$State" "lastWay" "I", Cond.fieldLink RX5 40 "BowedPlate$State" "strewn" "I", Cond.fieldLink RX5 43 "BowedPlate$State" "swept" "I", Cond.fieldLink RX5 46 "BowedPlate$State" "fallen" "I", Cond.fieldLink RX5 49 "BowedPlate$State" "strokes" "I", Cond.fieldLink RX5 52 "BowedPlate$State" "mutes" "I", Cond.methodLink RX5 67 yX4_copyFrom, Cond.instanceMethod yX4_copyFrom, Cond.selects RX4 yX4_copyFrom yX4_copyFrom, Cond.initialized RX4, Cond.code yX4_copyFrom cX4_copyFrom 2 none, Cond.fieldLink RX4 7 "BowedPlate$Piece" "size" "I", Cond.methodLink RX4 36 yX4_appendAll, Cond.instanceMethod yX4_appendAll, Cond.selects RX4 yX4_appendAll yX4_appendAll, Cond.code yX4_appendAll cX4_appendAll 3 none, Cond.fieldLink RX4 22 "BowedPlate$Piece" "sides" "[I", Cond.fieldLink RX4 26 "BowedPlate$Piece" "alongs" "[I"]
def wsX8_unclamp_r3 : List Cond := [Cond.fieldLink RX4 29 "BowedPlate$Piece" "strokes" "[I", Cond.methodLink RX4 32 yX4_append, Cond.instanceMethod yX4_append, Cond.selects RX4 yX4_append yX4_append, Cond.code yX4_append cX4_append 4 none, Cond.fieldLink RX4 19 "BowedPlate$Piece" "limit" "I", Cond.methodLink RX8 114 yX5_dropClamp, Cond.instanceMethod yX5_dropClamp, Cond.selects RX5 yX5_dropClamp yX5_dropClamp, Cond.code yX5_dropClamp cX5_dropClamp 3 none]
def wsX8_unclamp : List Cond := .code yX8_unclamp cX8_unclamp 2 (some .int) :: ((wsX8_unclamp_r1 ++ (wsX8_unclamp_r2 ++ wsX8_unclamp_r3)) ++ wsX80 ++ wsX50 ++ wsX20 ++ wsX40)
def wsX8_set_r1 : List Cond := [Cond.fieldLink RX8 117 "BowedPlate" "LEAST_SETTING" "[I", Cond.fieldLink RX8 120 "BowedPlate" "MOST_SETTING" "[I", Cond.fieldLink RX8 19 "BowedPlate" "now" "LBowedPlate$State;", Cond.fieldLink RX8 56 "BowedPlate" "history" "LBowedPlate$History;", Cond.methodLink RX8 71 yX2_record, Cond.instanceMethod yX2_record, Cond.selects RX2 yX2_record yX2_record, Cond.initialized RX2, Cond.code yX2_record cX2_record 3 none, Cond.fieldLink RX2 21 "BowedPlate$History" "held" "I", Cond.fieldLink RX2 17 "BowedPlate$History" "oldest" "I", Cond.fieldLink RX2 11 "BowedPlate$History" "states" "[LBowedPlate$State;", Cond.methodLink RX2 25 yX5_copyFrom, Cond.instanceMethod yX5_copyFrom, Cond.selects RX5 yX5_copyFrom yX5_copyFrom, Cond.initialized RX5, Cond.code yX5_copyFrom cX5_copyFrom 2 none, Cond.fieldLink RX5 9 "BowedPlate$State" "grains" "[I", Cond.methodLink RX5 61 arraycopyName, Cond.native arraycopyName, Cond.static arraycopyName, Cond.initialized "java/lang/System", Cond.fieldLink RX5 15 "BowedPlate$State" "clampColumns" "[I", Cond.fieldLink RX5 18 "BowedPlate$State" "clampRows" "[I"]
def wsX8_set_r2 : List Cond := [Cond.fieldLink RX5 21 "BowedPlate$State" "clamps" "I", Cond.fieldLink RX5 25 "BowedPlate$State" "settings" "[I", Cond.fieldLink RX5 33 "BowedPlate$State" "piece" "LBowedPlate$Piece;", Cond.fieldLink RX5 37 "BowedPlate$State" "lastWay" "I", Cond.fieldLink RX5 40 "BowedPlate$State" "strewn" "I", Cond.fieldLink RX5 43 "BowedPlate$State" "swept" "I", Cond.fieldLink RX5 46 "BowedPlate$State" "fallen" "I", Cond.fieldLink RX5 49 "BowedPlate$State" "strokes" "I", Cond.fieldLink RX5 52 "BowedPlate$State" "mutes" "I", Cond.methodLink RX5 67 yX4_copyFrom, Cond.instanceMethod yX4_copyFrom, Cond.selects RX4 yX4_copyFrom yX4_copyFrom, Cond.initialized RX4, Cond.code yX4_copyFrom cX4_copyFrom 2 none, Cond.fieldLink RX4 7 "BowedPlate$Piece" "size" "I", Cond.methodLink RX4 36 yX4_appendAll, Cond.instanceMethod yX4_appendAll, Cond.selects RX4 yX4_appendAll yX4_appendAll, Cond.code yX4_appendAll cX4_appendAll 3 none, Cond.fieldLink RX4 22 "BowedPlate$Piece" "sides" "[I", Cond.fieldLink RX4 26 "BowedPlate$Piece" "alongs" "[I", Cond.fieldLink RX4 29 "BowedPlate$Piece" "strokes" "[I", Cond.methodLink RX4 32 yX4_append, Cond.instanceMethod yX4_append]
def wsX8_set_r3 : List Cond := [Cond.selects RX4 yX4_append yX4_append, Cond.code yX4_append cX4_append 4 none, Cond.fieldLink RX4 19 "BowedPlate$Piece" "limit" "I"]
def wsX8_set : List Cond := .code yX8_set cX8_set 4 (some .int) :: ((wsX8_set_r1 ++ (wsX8_set_r2 ++ wsX8_set_r3)) ++ wsX80 ++ wsX50 ++ wsX20 ++ wsX40)
def wsX8_isLine : List Cond := .code yX8_isLine cX8_isLine 1 (some .boolean) :: ([])
def wsX8_isBow : List Cond := .code yX8_isBow cX8_isBow 2 (some .boolean) :: ([.methodLink RX8 256 yX8_isLine, .static yX8_isLine, .initialized RX8, .code yX8_isLine cX8_isLine 1 (some .boolean)])
def wsX8_bow_r1 : List Cond := [Cond.fieldLink RX8 19 "BowedPlate" "now" "LBowedPlate$State;", Cond.fieldLink RX8 56 "BowedPlate" "history" "LBowedPlate$History;", Cond.methodLink RX8 126 yX8_isBow, Cond.static yX8_isBow, Cond.initialized RX8, Cond.code yX8_isBow cX8_isBow 2 (some .boolean), Cond.methodLink RX8 256 yX8_isLine, Cond.static yX8_isLine, Cond.code yX8_isLine cX8_isLine 1 (some .boolean), Cond.methodLink RX8 71 yX2_record, Cond.instanceMethod yX2_record, Cond.selects RX2 yX2_record yX2_record, Cond.initialized RX2, Cond.code yX2_record cX2_record 3 none, Cond.fieldLink RX2 21 "BowedPlate$History" "held" "I", Cond.fieldLink RX2 17 "BowedPlate$History" "oldest" "I", Cond.fieldLink RX2 11 "BowedPlate$History" "states" "[LBowedPlate$State;", Cond.methodLink RX2 25 yX5_copyFrom, Cond.instanceMethod yX5_copyFrom, Cond.selects RX5 yX5_copyFrom yX5_copyFrom, Cond.initialized RX5, Cond.code yX5_copyFrom cX5_copyFrom 2 none, Cond.fieldLink RX5 9 "BowedPlate$State" "grains" "[I", Cond.methodLink RX5 61 arraycopyName]
def wsX8_bow_r2 : List Cond := [Cond.native arraycopyName, Cond.static arraycopyName, Cond.initialized "java/lang/System", Cond.fieldLink RX5 15 "BowedPlate$State" "clampColumns" "[I", Cond.fieldLink RX5 18 "BowedPlate$State" "clampRows" "[I", Cond.fieldLink RX5 21 "BowedPlate$State" "clamps" "I", Cond.fieldLink RX5 25 "BowedPlate$State" "settings" "[I", Cond.fieldLink RX5 33 "BowedPlate$State" "piece" "LBowedPlate$Piece;", Cond.fieldLink RX5 37 "BowedPlate$State" "lastWay" "I", Cond.fieldLink RX5 40 "BowedPlate$State" "strewn" "I", Cond.fieldLink RX5 43 "BowedPlate$State" "swept" "I", Cond.fieldLink RX5 46 "BowedPlate$State" "fallen" "I", Cond.fieldLink RX5 49 "BowedPlate$State" "strokes" "I", Cond.fieldLink RX5 52 "BowedPlate$State" "mutes" "I", Cond.methodLink RX5 67 yX4_copyFrom, Cond.instanceMethod yX4_copyFrom, Cond.selects RX4 yX4_copyFrom yX4_copyFrom, Cond.initialized RX4, Cond.code yX4_copyFrom cX4_copyFrom 2 none, Cond.fieldLink RX4 7 "BowedPlate$Piece" "size" "I", Cond.methodLink RX4 36 yX4_appendAll, Cond.instanceMethod yX4_appendAll, Cond.selects RX4 yX4_appendAll yX4_appendAll, Cond.code yX4_appendAll cX4_appendAll 3 none]
def wsX8_bow_r3 : List Cond := [Cond.fieldLink RX4 22 "BowedPlate$Piece" "sides" "[I", Cond.fieldLink RX4 26 "BowedPlate$Piece" "alongs" "[I", Cond.fieldLink RX4 29 "BowedPlate$Piece" "strokes" "[I", Cond.methodLink RX4 32 yX4_append, Cond.instanceMethod yX4_append, Cond.selects RX4 yX4_append yX4_append, Cond.code yX4_append cX4_append 4 none, Cond.fieldLink RX4 19 "BowedPlate$Piece" "limit" "I", Cond.methodLink RX8 138 yX4_append]
def wsX8_bow : List Cond := .code yX8_bow cX8_bow 4 (some .int) :: ((wsX8_bow_r1 ++ (wsX8_bow_r2 ++ wsX8_bow_r3)) ++ wsX80 ++ wsX50 ++ wsX40 ++ wsX20)
def wsX8_bowAll_r1 : List Cond := [Cond.fieldLink RX8 49 "BowedPlate" "text" "LBowedPlate$Text;", Cond.fieldLink RX8 19 "BowedPlate" "now" "LBowedPlate$State;", Cond.fieldLink RX8 56 "BowedPlate" "history" "LBowedPlate$History;", Cond.methodLink RX8 142 yX6_read, Cond.instanceMethod yX6_read, Cond.selects RX6 yX6_read yX6_read, Cond.initialized RX6, Cond.code yX6_read cX6_read 2 (some .boolean), Cond.fieldLink RX6 28 "BowedPlate$Text" "cursor" "I", Cond.fieldLink RX6 24 "BowedPlate$Text" "piece" "LBowedPlate$Piece;", Cond.methodLink RX6 34 yX6_readBowing, Cond.instanceMethod yX6_readBowing, Cond.selects RX6 yX6_readBowing yX6_readBowing, Cond.code yX6_readBowing cX6_readBowing 4 (some .boolean), Cond.methodLink RX6 38 yX6_next, Cond.instanceMethod yX6_next, Cond.selects RX6 yX6_next yX6_next, Cond.code yX6_next cX6_next 2 (some .int), Cond.fieldLink RX6 15 "BowedPlate$Text" "length" "I", Cond.fieldLink RX6 9 "BowedPlate$Text" "characters" "[C", Cond.methodLink RX6 42 yX6_sideOf, Cond.static yX6_sideOf, Cond.code yX6_sideOf cX6_sideOf 1 (some .int), Cond.methodLink RX6 46 yX6_readNumber]
def wsX8_bowAll_r2 : List Cond := [Cond.instanceMethod yX6_readNumber, Cond.selects RX6 yX6_readNumber yX6_readNumber, Cond.code yX6_readNumber cX6_readNumber 6 (some .int), Cond.methodLink RX6 54 yX6_digitOf, Cond.static yX6_digitOf, Cond.code yX6_digitOf cX6_digitOf 1 (some .int), Cond.methodLink RX6 50 yX4_append, Cond.instanceMethod yX4_append, Cond.selects RX4 yX4_append yX4_append, Cond.initialized RX4, Cond.code yX4_append cX4_append 4 none, Cond.fieldLink RX4 7 "BowedPlate$Piece" "size" "I", Cond.fieldLink RX4 19 "BowedPlate$Piece" "limit" "I", Cond.fieldLink RX4 22 "BowedPlate$Piece" "sides" "[I", Cond.fieldLink RX4 26 "BowedPlate$Piece" "alongs" "[I", Cond.fieldLink RX4 29 "BowedPlate$Piece" "strokes" "[I", Cond.methodLink RX8 146 yX6_fault, Cond.instanceMethod yX6_fault, Cond.selects RX6 yX6_fault yX6_fault, Cond.code yX6_fault cX6_fault 1 (some .int), Cond.methodLink RX8 71 yX2_record, Cond.instanceMethod yX2_record, Cond.selects RX2 yX2_record yX2_record, Cond.initialized RX2]
def wsX8_bowAll_r3 : List Cond := [Cond.code yX2_record cX2_record 3 none, Cond.fieldLink RX2 21 "BowedPlate$History" "held" "I", Cond.fieldLink RX2 17 "BowedPlate$History" "oldest" "I", Cond.fieldLink RX2 11 "BowedPlate$History" "states" "[LBowedPlate$State;", Cond.methodLink RX2 25 yX5_copyFrom, Cond.instanceMethod yX5_copyFrom, Cond.selects RX5 yX5_copyFrom yX5_copyFrom, Cond.initialized RX5, Cond.code yX5_copyFrom cX5_copyFrom 2 none, Cond.fieldLink RX5 9 "BowedPlate$State" "grains" "[I", Cond.methodLink RX5 61 arraycopyName, Cond.native arraycopyName, Cond.static arraycopyName, Cond.initialized "java/lang/System", Cond.fieldLink RX5 15 "BowedPlate$State" "clampColumns" "[I", Cond.fieldLink RX5 18 "BowedPlate$State" "clampRows" "[I", Cond.fieldLink RX5 21 "BowedPlate$State" "clamps" "I", Cond.fieldLink RX5 25 "BowedPlate$State" "settings" "[I", Cond.fieldLink RX5 33 "BowedPlate$State" "piece" "LBowedPlate$Piece;", Cond.fieldLink RX5 37 "BowedPlate$State" "lastWay" "I", Cond.fieldLink RX5 40 "BowedPlate$State" "strewn" "I", Cond.fieldLink RX5 43 "BowedPlate$State" "swept" "I", Cond.fieldLink RX5 46 "BowedPlate$State" "fallen" "I", Cond.fieldLink RX5 49 "BowedPlate$State" "strokes" "I"]
def wsX8_bowAll_r4 : List Cond := [Cond.fieldLink RX5 52 "BowedPlate$State" "mutes" "I", Cond.methodLink RX5 67 yX4_copyFrom, Cond.instanceMethod yX4_copyFrom, Cond.selects RX4 yX4_copyFrom yX4_copyFrom, Cond.code yX4_copyFrom cX4_copyFrom 2 none, Cond.methodLink RX4 36 yX4_appendAll, Cond.instanceMethod yX4_appendAll, Cond.selects RX4 yX4_appendAll yX4_appendAll, Cond.code yX4_appendAll cX4_appendAll 3 none, Cond.methodLink RX4 32 yX4_append, Cond.methodLink RX8 150 yX4_appendAll]
def wsX8_bowAll : List Cond := .code yX8_bowAll cX8_bowAll 1 (some .int) :: ((wsX8_bowAll_r1 ++ (wsX8_bowAll_r2 ++ (wsX8_bowAll_r3 ++ wsX8_bowAll_r4))) ++ wsX80 ++ wsX50 ++ wsX40 ++ wsX60 ++ wsX20)
def wsX8_strike_r1 : List Cond := [Cond.fieldLink RX8 19 "BowedPlate" "now" "LBowedPlate$State;", Cond.fieldLink RX8 56 "BowedPlate" "history" "LBowedPlate$History;", Cond.methodLink RX8 154 yX4_sizeAt, Cond.instanceMethod yX4_sizeAt, Cond.selects RX4 yX4_sizeAt yX4_sizeAt, Cond.initialized RX4, Cond.code yX4_sizeAt cX4_sizeAt 4 (some .int), Cond.fieldLink RX4 7 "BowedPlate$Piece" "size" "I", Cond.fieldLink RX4 22 "BowedPlate$Piece" "sides" "[I", Cond.methodLink RX8 71 yX2_record, Cond.instanceMethod yX2_record, Cond.selects RX2 yX2_record yX2_record, Cond.initialized RX2, Cond.code yX2_record cX2_record 3 none, Cond.fieldLink RX2 21 "BowedPlate$History" "held" "I", Cond.fieldLink RX2 17 "BowedPlate$History" "oldest" "I", Cond.fieldLink RX2 11 "BowedPlate$History" "states" "[LBowedPlate$State;", Cond.methodLink RX2 25 yX5_copyFrom, Cond.instanceMethod yX5_copyFrom, Cond.selects RX5 yX5_copyFrom yX5_copyFrom, Cond.initialized RX5, Cond.code yX5_copyFrom cX5_copyFrom 2 none, Cond.fieldLink RX5 9 "BowedPlate$State" "grains" "[I", Cond.methodLink RX5 61 arraycopyName]
def wsX8_strike_r2 : List Cond := [Cond.native arraycopyName, Cond.static arraycopyName, Cond.initialized "java/lang/System", Cond.fieldLink RX5 15 "BowedPlate$State" "clampColumns" "[I", Cond.fieldLink RX5 18 "BowedPlate$State" "clampRows" "[I", Cond.fieldLink RX5 21 "BowedPlate$State" "clamps" "I", Cond.fieldLink RX5 25 "BowedPlate$State" "settings" "[I", Cond.fieldLink RX5 33 "BowedPlate$State" "piece" "LBowedPlate$Piece;", Cond.fieldLink RX5 37 "BowedPlate$State" "lastWay" "I", Cond.fieldLink RX5 40 "BowedPlate$State" "strewn" "I", Cond.fieldLink RX5 43 "BowedPlate$State" "swept" "I", Cond.fieldLink RX5 46 "BowedPlate$State" "fallen" "I", Cond.fieldLink RX5 49 "BowedPlate$State" "strokes" "I", Cond.fieldLink RX5 52 "BowedPlate$State" "mutes" "I", Cond.methodLink RX5 67 yX4_copyFrom, Cond.instanceMethod yX4_copyFrom, Cond.selects RX4 yX4_copyFrom yX4_copyFrom, Cond.code yX4_copyFrom cX4_copyFrom 2 none, Cond.methodLink RX4 36 yX4_appendAll, Cond.instanceMethod yX4_appendAll, Cond.selects RX4 yX4_appendAll yX4_appendAll, Cond.code yX4_appendAll cX4_appendAll 3 none, Cond.fieldLink RX4 26 "BowedPlate$Piece" "alongs" "[I", Cond.fieldLink RX4 29 "BowedPlate$Piece" "strokes" "[I"]
def wsX8_strike_r3 : List Cond := [Cond.methodLink RX4 32 yX4_append, Cond.instanceMethod yX4_append, Cond.selects RX4 yX4_append yX4_append, Cond.code yX4_append cX4_append 4 none, Cond.fieldLink RX4 19 "BowedPlate$Piece" "limit" "I", Cond.methodLink RX8 158 yX4_dropSide, Cond.instanceMethod yX4_dropSide, Cond.selects RX4 yX4_dropSide yX4_dropSide, Cond.code yX4_dropSide cX4_dropSide 4 (some .int)]
def wsX8_strike : List Cond := .code yX8_strike cX8_strike 2 (some .int) :: ((wsX8_strike_r1 ++ (wsX8_strike_r2 ++ wsX8_strike_r3)) ++ wsX80 ++ wsX50 ++ wsX40 ++ wsX20)
def wsX8_playBowing_r1 : List Cond := [Cond.fieldLink RX8 28 "BowedPlate" "choice" "LBowedPlate$Choice;", Cond.fieldLink RX8 19 "BowedPlate" "now" "LBowedPlate$State;", Cond.fieldLink RX8 42 "BowedPlate" "mover" "LBowedPlate$Mover;", Cond.methodLink RX8 232 yX0_wayFor, Cond.instanceMethod yX0_wayFor, Cond.selects RX0 yX0_wayFor yX0_wayFor, Cond.initialized RX0, Cond.code yX0_wayFor cX0_wayFor 4 (some .int), Cond.methodLink RX0 54 yX0_bowAllows, Cond.instanceMethod yX0_bowAllows, Cond.selects RX0 yX0_bowAllows yX0_bowAllows, Cond.code yX0_bowAllows cX0_bowAllows 4 (some .boolean), Cond.fieldLink RX0 27 "BowedPlate$Choice" "now" "LBowedPlate$State;", Cond.methodLink RX0 51 yX0_swingAtBow, Cond.instanceMethod yX0_swingAtBow, Cond.selects RX0 yX0_swingAtBow yX0_swingAtBow, Cond.code yX0_swingAtBow cX0_swingAtBow 4 (some .int), Cond.fieldLink RX0 23 "BowedPlate$Choice" "ways" "LBowedPlate$Ways;", Cond.methodLink RX0 42 yX7_swingAt, Cond.instanceMethod yX7_swingAt, Cond.selects RX7 yX7_swingAt yX7_swingAt, Cond.initialized RX7, Cond.code yX7_swingAt cX7_swingAt 8 (some .int), Cond.fieldLink RX7 9 "BowedPlate$Ways" "lesser" "[I"]
def wsX8_playBowing_r2 : List Cond := [Cond.fieldLink RX7 15 "BowedPlate$Ways" "greater" "[I", Cond.fieldLink RX7 21 "BowedPlate$Ways" "heights" "[I", Cond.fieldLink RX7 18 "BowedPlate$Ways" "sign" "[I", Cond.methodLink RX7 44 Lib.Math.abs.name, Cond.static Lib.Math.abs.name, Cond.initialized "java/lang/Math", Cond.code Lib.Math.abs.name Lib.Math.abs.code 1 (some .int), Cond.static yX8_isWay, Cond.initialized RX8, Cond.code yX8_isWay cX8_isWay 1 (some .boolean), Cond.static yX8_isPlace, Cond.code yX8_isPlace cX8_isPlace 2 (some .boolean), Cond.methodLink RX0 58 yX0_clampsAllow, Cond.instanceMethod yX0_clampsAllow, Cond.selects RX0 yX0_clampsAllow yX0_clampsAllow, Cond.code yX0_clampsAllow cX0_clampsAllow 4 (some .boolean), Cond.methodLink RX8 190 yX8_isWay, Cond.methodLink RX8 270 yX3_stroke, Cond.instanceMethod yX3_stroke, Cond.selects RX3 yX3_stroke yX3_stroke, Cond.initialized RX3, Cond.code yX3_stroke cX3_stroke 4 none, Cond.fieldLink RX3 9 "BowedPlate$Mover" "swings" "[I", Cond.fieldLink RX3 21 "BowedPlate$Mover" "ways" "LBowedPlate$Ways;"]
def wsX8_playBowing_r3 : List Cond := [Cond.fieldLink RX3 15 "BowedPlate$Mover" "targets" "[I", Cond.static yX8_columnOf, Cond.code yX8_columnOf cX8_columnOf 1 (some .int), Cond.static yX8_rowOf, Cond.code yX8_rowOf cX8_rowOf 1 (some .int), Cond.methodLink RX3 36 yX7_swingAt, Cond.methodLink RX3 42 yX3_targetOf, Cond.instanceMethod yX3_targetOf, Cond.selects RX3 yX3_targetOf yX3_targetOf, Cond.code yX3_targetOf cX3_targetOf 4 (some .int), Cond.static yX8_placeOf, Cond.code yX8_placeOf cX8_placeOf 2 (some .int), Cond.methodLink RX3 52 yX3_calmerOf, Cond.instanceMethod yX3_calmerOf, Cond.selects RX3 yX3_calmerOf yX3_calmerOf, Cond.code yX3_calmerOf cX3_calmerOf 4 (some .int), Cond.methodLink RX3 46 yX3_strokeOnce, Cond.instanceMethod yX3_strokeOnce, Cond.selects RX3 yX3_strokeOnce yX3_strokeOnce, Cond.code yX3_strokeOnce cX3_strokeOnce 2 none, Cond.fieldLink RX3 18 "BowedPlate$Mover" "arrivals" "[I", Cond.fieldLink RX3 25 "BowedPlate$Mover" "now" "LBowedPlate$State;", Cond.methodLink RX3 67 yX3_shake, Cond.instanceMethod yX3_shake]
def wsX8_playBowing_r4 : List Cond := [Cond.selects RX3 yX3_shake yX3_shake, Cond.code yX3_shake cX3_shake 3 none, Cond.methodLink RX3 71 yX3_isAtEdge, Cond.static yX3_isAtEdge, Cond.code yX3_isAtEdge cX3_isAtEdge 3 (some .boolean)]
def wsX8_playBowing : List Cond := .code yX8_playBowing cX8_playBowing 4 (some .boolean) :: ((wsX8_playBowing_r1 ++ (wsX8_playBowing_r2 ++ (wsX8_playBowing_r3 ++ wsX8_playBowing_r4))) ++ wsX80 ++ wsX50 ++ wsX40 ++ wsX00 ++ wsX70 ++ wsX30)
def wsX8_play_r1 : List Cond := [Cond.fieldLink RX8 19 "BowedPlate" "now" "LBowedPlate$State;", Cond.methodLink RX8 161 Lib.Math.min.name, Cond.static Lib.Math.min.name, Cond.initialized "java/lang/Math", Cond.code Lib.Math.min.name Lib.Math.min.code 2 (some .int), Cond.fieldLink RX8 56 "BowedPlate" "history" "LBowedPlate$History;", Cond.methodLink RX8 71 yX2_record, Cond.instanceMethod yX2_record, Cond.selects RX2 yX2_record yX2_record, Cond.initialized RX2, Cond.code yX2_record cX2_record 3 none, Cond.fieldLink RX2 21 "BowedPlate$History" "held" "I", Cond.fieldLink RX2 17 "BowedPlate$History" "oldest" "I", Cond.fieldLink RX2 11 "BowedPlate$History" "states" "[LBowedPlate$State;", Cond.methodLink RX2 25 yX5_copyFrom, Cond.instanceMethod yX5_copyFrom, Cond.selects RX5 yX5_copyFrom yX5_copyFrom, Cond.initialized RX5, Cond.code yX5_copyFrom cX5_copyFrom 2 none, Cond.fieldLink RX5 9 "BowedPlate$State" "grains" "[I", Cond.methodLink RX5 61 arraycopyName, Cond.native arraycopyName, Cond.static arraycopyName, Cond.initialized "java/lang/System"]
def wsX8_play_r2 : List Cond := [Cond.fieldLink RX5 15 "BowedPlate$State" "clampColumns" "[I", Cond.fieldLink RX5 18 "BowedPlate$State" "clampRows" "[I", Cond.fieldLink RX5 21 "BowedPlate$State" "clamps" "I", Cond.fieldLink RX5 25 "BowedPlate$State" "settings" "[I", Cond.fieldLink RX5 33 "BowedPlate$State" "piece" "LBowedPlate$Piece;", Cond.fieldLink RX5 37 "BowedPlate$State" "lastWay" "I", Cond.fieldLink RX5 40 "BowedPlate$State" "strewn" "I", Cond.fieldLink RX5 43 "BowedPlate$State" "swept" "I", Cond.fieldLink RX5 46 "BowedPlate$State" "fallen" "I", Cond.fieldLink RX5 49 "BowedPlate$State" "strokes" "I", Cond.fieldLink RX5 52 "BowedPlate$State" "mutes" "I", Cond.methodLink RX5 67 yX4_copyFrom, Cond.instanceMethod yX4_copyFrom, Cond.selects RX4 yX4_copyFrom yX4_copyFrom, Cond.initialized RX4, Cond.code yX4_copyFrom cX4_copyFrom 2 none, Cond.fieldLink RX4 7 "BowedPlate$Piece" "size" "I", Cond.methodLink RX4 36 yX4_appendAll, Cond.instanceMethod yX4_appendAll, Cond.selects RX4 yX4_appendAll yX4_appendAll, Cond.code yX4_appendAll cX4_appendAll 3 none, Cond.fieldLink RX4 22 "BowedPlate$Piece" "sides" "[I", Cond.fieldLink RX4 26 "BowedPlate$Piece" "alongs" "[I", Cond.fieldLink RX4 29 "BowedPlate$Piece" "strokes" "[I"]
def wsX8_play_r3 : List Cond := [Cond.methodLink RX4 32 yX4_append, Cond.instanceMethod yX4_append, Cond.selects RX4 yX4_append yX4_append, Cond.code yX4_append cX4_append 4 none, Cond.fieldLink RX4 19 "BowedPlate$Piece" "limit" "I", Cond.methodLink RX8 166 yX8_playBowing, Cond.instanceMethod yX8_playBowing, Cond.selects RX8 yX8_playBowing yX8_playBowing, Cond.initialized RX8, Cond.code yX8_playBowing cX8_playBowing 4 (some .boolean), Cond.fieldLink RX8 28 "BowedPlate" "choice" "LBowedPlate$Choice;", Cond.fieldLink RX8 42 "BowedPlate" "mover" "LBowedPlate$Mover;", Cond.methodLink RX8 232 yX0_wayFor, Cond.instanceMethod yX0_wayFor, Cond.selects RX0 yX0_wayFor yX0_wayFor, Cond.initialized RX0, Cond.code yX0_wayFor cX0_wayFor 4 (some .int), Cond.methodLink RX0 54 yX0_bowAllows, Cond.instanceMethod yX0_bowAllows, Cond.selects RX0 yX0_bowAllows yX0_bowAllows, Cond.code yX0_bowAllows cX0_bowAllows 4 (some .boolean), Cond.fieldLink RX0 27 "BowedPlate$Choice" "now" "LBowedPlate$State;", Cond.methodLink RX0 51 yX0_swingAtBow, Cond.instanceMethod yX0_swingAtBow]
def wsX8_play_r4 : List Cond := [Cond.selects RX0 yX0_swingAtBow yX0_swingAtBow, Cond.code yX0_swingAtBow cX0_swingAtBow 4 (some .int), Cond.fieldLink RX0 23 "BowedPlate$Choice" "ways" "LBowedPlate$Ways;", Cond.methodLink RX0 42 yX7_swingAt, Cond.instanceMethod yX7_swingAt, Cond.selects RX7 yX7_swingAt yX7_swingAt, Cond.initialized RX7, Cond.code yX7_swingAt cX7_swingAt 8 (some .int), Cond.fieldLink RX7 9 "BowedPlate$Ways" "lesser" "[I", Cond.fieldLink RX7 15 "BowedPlate$Ways" "greater" "[I", Cond.fieldLink RX7 21 "BowedPlate$Ways" "heights" "[I", Cond.fieldLink RX7 18 "BowedPlate$Ways" "sign" "[I", Cond.methodLink RX7 44 Lib.Math.abs.name, Cond.static Lib.Math.abs.name, Cond.code Lib.Math.abs.name Lib.Math.abs.code 1 (some .int), Cond.static yX8_isWay, Cond.code yX8_isWay cX8_isWay 1 (some .boolean), Cond.static yX8_isPlace, Cond.code yX8_isPlace cX8_isPlace 2 (some .boolean), Cond.methodLink RX0 58 yX0_clampsAllow, Cond.instanceMethod yX0_clampsAllow, Cond.selects RX0 yX0_clampsAllow yX0_clampsAllow, Cond.code yX0_clampsAllow cX0_clampsAllow 4 (some .boolean), Cond.methodLink RX8 190 yX8_isWay]
def wsX8_play_r5 : List Cond := [Cond.methodLink RX8 270 yX3_stroke, Cond.instanceMethod yX3_stroke, Cond.selects RX3 yX3_stroke yX3_stroke, Cond.initialized RX3, Cond.code yX3_stroke cX3_stroke 4 none, Cond.fieldLink RX3 9 "BowedPlate$Mover" "swings" "[I", Cond.fieldLink RX3 21 "BowedPlate$Mover" "ways" "LBowedPlate$Ways;", Cond.fieldLink RX3 15 "BowedPlate$Mover" "targets" "[I", Cond.static yX8_columnOf, Cond.code yX8_columnOf cX8_columnOf 1 (some .int), Cond.static yX8_rowOf, Cond.code yX8_rowOf cX8_rowOf 1 (some .int), Cond.methodLink RX3 36 yX7_swingAt, Cond.methodLink RX3 42 yX3_targetOf, Cond.instanceMethod yX3_targetOf, Cond.selects RX3 yX3_targetOf yX3_targetOf, Cond.code yX3_targetOf cX3_targetOf 4 (some .int), Cond.static yX8_placeOf, Cond.code yX8_placeOf cX8_placeOf 2 (some .int), Cond.methodLink RX3 52 yX3_calmerOf, Cond.instanceMethod yX3_calmerOf, Cond.selects RX3 yX3_calmerOf yX3_calmerOf, Cond.code yX3_calmerOf cX3_calmerOf 4 (some .int), Cond.methodLink RX3 46 yX3_strokeOnce]
def wsX8_play_r6 : List Cond := [Cond.instanceMethod yX3_strokeOnce, Cond.selects RX3 yX3_strokeOnce yX3_strokeOnce, Cond.code yX3_strokeOnce cX3_strokeOnce 2 none, Cond.fieldLink RX3 18 "BowedPlate$Mover" "arrivals" "[I", Cond.fieldLink RX3 25 "BowedPlate$Mover" "now" "LBowedPlate$State;", Cond.methodLink RX3 67 yX3_shake, Cond.instanceMethod yX3_shake, Cond.selects RX3 yX3_shake yX3_shake, Cond.code yX3_shake cX3_shake 3 none, Cond.methodLink RX3 71 yX3_isAtEdge, Cond.static yX3_isAtEdge, Cond.code yX3_isAtEdge cX3_isAtEdge 3 (some .boolean), Cond.methodLink RX8 169 yX4_dropFirst, Cond.instanceMethod yX4_dropFirst, Cond.selects RX4 yX4_dropFirst yX4_dropFirst, Cond.code yX4_dropFirst cX4_dropFirst 4 none, Cond.methodLink RX4 13 Lib.Math.max.name, Cond.static Lib.Math.max.name, Cond.code Lib.Math.max.name Lib.Math.max.code 2 (some .int)]
def wsX8_play : List Cond := .code yX8_play cX8_play 5 (some .int) :: ((wsX8_play_r1 ++ (wsX8_play_r2 ++ (wsX8_play_r3 ++ (wsX8_play_r4 ++ (wsX8_play_r5 ++ wsX8_play_r6))))) ++ wsX80 ++ wsX50 ++ wsX40 ++ wsX20 ++ wsX00 ++ wsX70 ++ wsX30)
def wsX8_type : List Cond := .code yX8_type cX8_type 2 (some .int) :: ([.fieldLink RX8 49 "BowedPlate" "text" "LBowedPlate$Text;", .methodLink RX8 175 yX6_append, .instanceMethod yX6_append, .selects RX6 yX6_append yX6_append, .initialized RX6, .code yX6_append cX6_append 2 none, .fieldLink RX6 15 "BowedPlate$Text" "length" "I", .fieldLink RX6 9 "BowedPlate$Text" "characters" "[C"] ++ wsX80 ++ wsX60)
def wsX8_clearText : List Cond := .code yX8_clearText cX8_clearText 2 (some .int) :: ([.fieldLink RX8 49 "BowedPlate" "text" "LBowedPlate$Text;"] ++ wsX80 ++ wsX60)
def wsX8_undo_r1 : List Cond := [Cond.fieldLink RX8 56 "BowedPlate" "history" "LBowedPlate$History;", Cond.fieldLink RX8 19 "BowedPlate" "now" "LBowedPlate$State;", Cond.methodLink RX8 181 yX2_takeLatest, Cond.instanceMethod yX2_takeLatest, Cond.selects RX2 yX2_takeLatest yX2_takeLatest, Cond.initialized RX2, Cond.code yX2_takeLatest cX2_takeLatest 3 none, Cond.fieldLink RX2 21 "BowedPlate$History" "held" "I", Cond.fieldLink RX2 11 "BowedPlate$History" "states" "[LBowedPlate$State;", Cond.fieldLink RX2 17 "BowedPlate$History" "oldest" "I", Cond.methodLink RX2 25 yX5_copyFrom, Cond.instanceMethod yX5_copyFrom, Cond.selects RX5 yX5_copyFrom yX5_copyFrom, Cond.initialized RX5, Cond.code yX5_copyFrom cX5_copyFrom 2 none, Cond.fieldLink RX5 9 "BowedPlate$State" "grains" "[I", Cond.methodLink RX5 61 arraycopyName, Cond.native arraycopyName, Cond.static arraycopyName, Cond.initialized "java/lang/System", Cond.fieldLink RX5 15 "BowedPlate$State" "clampColumns" "[I", Cond.fieldLink RX5 18 "BowedPlate$State" "clampRows" "[I", Cond.fieldLink RX5 21 "BowedPlate$State" "clamps" "I", Cond.fieldLink RX5 25 "BowedPlate$State" "settings" "[I"]
def wsX8_undo_r2 : List Cond := [Cond.fieldLink RX5 33 "BowedPlate$State" "piece" "LBowedPlate$Piece;", Cond.fieldLink RX5 37 "BowedPlate$State" "lastWay" "I", Cond.fieldLink RX5 40 "BowedPlate$State" "strewn" "I", Cond.fieldLink RX5 43 "BowedPlate$State" "swept" "I", Cond.fieldLink RX5 46 "BowedPlate$State" "fallen" "I", Cond.fieldLink RX5 49 "BowedPlate$State" "strokes" "I", Cond.fieldLink RX5 52 "BowedPlate$State" "mutes" "I", Cond.methodLink RX5 67 yX4_copyFrom, Cond.instanceMethod yX4_copyFrom, Cond.selects RX4 yX4_copyFrom yX4_copyFrom, Cond.initialized RX4, Cond.code yX4_copyFrom cX4_copyFrom 2 none, Cond.fieldLink RX4 7 "BowedPlate$Piece" "size" "I", Cond.methodLink RX4 36 yX4_appendAll, Cond.instanceMethod yX4_appendAll, Cond.selects RX4 yX4_appendAll yX4_appendAll, Cond.code yX4_appendAll cX4_appendAll 3 none, Cond.fieldLink RX4 22 "BowedPlate$Piece" "sides" "[I", Cond.fieldLink RX4 26 "BowedPlate$Piece" "alongs" "[I", Cond.fieldLink RX4 29 "BowedPlate$Piece" "strokes" "[I", Cond.methodLink RX4 32 yX4_append, Cond.instanceMethod yX4_append, Cond.selects RX4 yX4_append yX4_append, Cond.code yX4_append cX4_append 4 none]
def wsX8_undo_r3 : List Cond := [Cond.fieldLink RX4 19 "BowedPlate$Piece" "limit" "I"]
def wsX8_undo : List Cond := .code yX8_undo cX8_undo 1 (some .int) :: ((wsX8_undo_r1 ++ (wsX8_undo_r2 ++ wsX8_undo_r3)) ++ wsX80 ++ wsX20 ++ wsX50 ++ wsX40)
def wsX8_keep_r1 : List Cond := [Cond.fieldLink RX8 60 "BowedPlate" "snapshot" "LBowedPlate$State;", Cond.fieldLink RX8 19 "BowedPlate" "now" "LBowedPlate$State;", Cond.fieldLink RX8 63 "BowedPlate" "hasSnapshot" "Z", Cond.methodLink RX8 184 yX5_copyFrom, Cond.instanceMethod yX5_copyFrom, Cond.selects RX5 yX5_copyFrom yX5_copyFrom, Cond.initialized RX5, Cond.code yX5_copyFrom cX5_copyFrom 2 none, Cond.fieldLink RX5 9 "BowedPlate$State" "grains" "[I", Cond.methodLink RX5 61 arraycopyName, Cond.native arraycopyName, Cond.static arraycopyName, Cond.initialized "java/lang/System", Cond.fieldLink RX5 15 "BowedPlate$State" "clampColumns" "[I", Cond.fieldLink RX5 18 "BowedPlate$State" "clampRows" "[I", Cond.fieldLink RX5 21 "BowedPlate$State" "clamps" "I", Cond.fieldLink RX5 25 "BowedPlate$State" "settings" "[I", Cond.fieldLink RX5 33 "BowedPlate$State" "piece" "LBowedPlate$Piece;", Cond.fieldLink RX5 37 "BowedPlate$State" "lastWay" "I", Cond.fieldLink RX5 40 "BowedPlate$State" "strewn" "I", Cond.fieldLink RX5 43 "BowedPlate$State" "swept" "I", Cond.fieldLink RX5 46 "BowedPlate$State" "fallen" "I", Cond.fieldLink RX5 49 "BowedPlate$State" "strokes" "I", Cond.fieldLink RX5 52 "BowedPlate$State" "mutes" "I"]
def wsX8_keep_r2 : List Cond := [Cond.methodLink RX5 67 yX4_copyFrom, Cond.instanceMethod yX4_copyFrom, Cond.selects RX4 yX4_copyFrom yX4_copyFrom, Cond.initialized RX4, Cond.code yX4_copyFrom cX4_copyFrom 2 none, Cond.fieldLink RX4 7 "BowedPlate$Piece" "size" "I", Cond.methodLink RX4 36 yX4_appendAll, Cond.instanceMethod yX4_appendAll, Cond.selects RX4 yX4_appendAll yX4_appendAll, Cond.code yX4_appendAll cX4_appendAll 3 none, Cond.fieldLink RX4 22 "BowedPlate$Piece" "sides" "[I", Cond.fieldLink RX4 26 "BowedPlate$Piece" "alongs" "[I", Cond.fieldLink RX4 29 "BowedPlate$Piece" "strokes" "[I", Cond.methodLink RX4 32 yX4_append, Cond.instanceMethod yX4_append, Cond.selects RX4 yX4_append yX4_append, Cond.code yX4_append cX4_append 4 none, Cond.fieldLink RX4 19 "BowedPlate$Piece" "limit" "I", Cond.methodLink RX8 87 yX5_allGrains, Cond.instanceMethod yX5_allGrains, Cond.selects RX5 yX5_allGrains yX5_allGrains, Cond.code yX5_allGrains cX5_allGrains 3 (some .int)]
def wsX8_keep : List Cond := .code yX8_keep cX8_keep 1 (some .int) :: ((wsX8_keep_r1 ++ wsX8_keep_r2) ++ wsX80 ++ wsX50 ++ wsX40)
def wsX8_restore_r1 : List Cond := [Cond.fieldLink RX8 63 "BowedPlate" "hasSnapshot" "Z", Cond.fieldLink RX8 56 "BowedPlate" "history" "LBowedPlate$History;", Cond.fieldLink RX8 19 "BowedPlate" "now" "LBowedPlate$State;", Cond.fieldLink RX8 60 "BowedPlate" "snapshot" "LBowedPlate$State;", Cond.methodLink RX8 71 yX2_record, Cond.instanceMethod yX2_record, Cond.selects RX2 yX2_record yX2_record, Cond.initialized RX2, Cond.code yX2_record cX2_record 3 none, Cond.fieldLink RX2 21 "BowedPlate$History" "held" "I", Cond.fieldLink RX2 17 "BowedPlate$History" "oldest" "I", Cond.fieldLink RX2 11 "BowedPlate$History" "states" "[LBowedPlate$State;", Cond.methodLink RX2 25 yX5_copyFrom, Cond.instanceMethod yX5_copyFrom, Cond.selects RX5 yX5_copyFrom yX5_copyFrom, Cond.initialized RX5, Cond.code yX5_copyFrom cX5_copyFrom 2 none, Cond.fieldLink RX5 9 "BowedPlate$State" "grains" "[I", Cond.methodLink RX5 61 arraycopyName, Cond.native arraycopyName, Cond.static arraycopyName, Cond.initialized "java/lang/System", Cond.fieldLink RX5 15 "BowedPlate$State" "clampColumns" "[I", Cond.fieldLink RX5 18 "BowedPlate$State" "clampRows" "[I"]
def wsX8_restore_r2 : List Cond := [Cond.fieldLink RX5 21 "BowedPlate$State" "clamps" "I", Cond.fieldLink RX5 25 "BowedPlate$State" "settings" "[I", Cond.fieldLink RX5 33 "BowedPlate$State" "piece" "LBowedPlate$Piece;", Cond.fieldLink RX5 37 "BowedPlate$State" "lastWay" "I", Cond.fieldLink RX5 40 "BowedPlate$State" "strewn" "I", Cond.fieldLink RX5 43 "BowedPlate$State" "swept" "I", Cond.fieldLink RX5 46 "BowedPlate$State" "fallen" "I", Cond.fieldLink RX5 49 "BowedPlate$State" "strokes" "I", Cond.fieldLink RX5 52 "BowedPlate$State" "mutes" "I", Cond.methodLink RX5 67 yX4_copyFrom, Cond.instanceMethod yX4_copyFrom, Cond.selects RX4 yX4_copyFrom yX4_copyFrom, Cond.initialized RX4, Cond.code yX4_copyFrom cX4_copyFrom 2 none, Cond.fieldLink RX4 7 "BowedPlate$Piece" "size" "I", Cond.methodLink RX4 36 yX4_appendAll, Cond.instanceMethod yX4_appendAll, Cond.selects RX4 yX4_appendAll yX4_appendAll, Cond.code yX4_appendAll cX4_appendAll 3 none, Cond.fieldLink RX4 22 "BowedPlate$Piece" "sides" "[I", Cond.fieldLink RX4 26 "BowedPlate$Piece" "alongs" "[I", Cond.fieldLink RX4 29 "BowedPlate$Piece" "strokes" "[I", Cond.methodLink RX4 32 yX4_append, Cond.instanceMethod yX4_append]
def wsX8_restore_r3 : List Cond := [Cond.selects RX4 yX4_append yX4_append, Cond.code yX4_append cX4_append 4 none, Cond.fieldLink RX4 19 "BowedPlate$Piece" "limit" "I", Cond.methodLink RX8 184 yX5_copyFrom, Cond.methodLink RX8 87 yX5_allGrains, Cond.instanceMethod yX5_allGrains, Cond.selects RX5 yX5_allGrains yX5_allGrains, Cond.code yX5_allGrains cX5_allGrains 3 (some .int)]
def wsX8_restore : List Cond := .code yX8_restore cX8_restore 1 (some .int) :: ((wsX8_restore_r1 ++ (wsX8_restore_r2 ++ wsX8_restore_r3)) ++ wsX80 ++ wsX20 ++ wsX50 ++ wsX40)
def wsX8_asNumber : List Cond := .code yX8_asNumber cX8_asNumber 1 (some .int) :: ([])
def wsX8_orNone : List Cond := .code yX8_orNone cX8_orNone 1 (some .int) :: ([])
def wsX8_place_r1 : List Cond := [Cond.fieldLink RX8 19 "BowedPlate" "now" "LBowedPlate$State;", Cond.fieldLink RX8 12 "BowedPlate" "ways" "LBowedPlate$Ways;", Cond.fieldLink RX8 35 "BowedPlate" "figure" "LBowedPlate$Figure;", Cond.methodLink RX8 67 yX8_isPlace, Cond.static yX8_isPlace, Cond.initialized RX8, Cond.code yX8_isPlace cX8_isPlace 2 (some .boolean), Cond.methodLink RX8 75 yX8_placeOf, Cond.static yX8_placeOf, Cond.code yX8_placeOf cX8_placeOf 2 (some .int), Cond.methodLink RX8 190 yX8_isWay, Cond.static yX8_isWay, Cond.code yX8_isWay cX8_isWay 1 (some .boolean), Cond.methodLink RX8 193 yX7_swingAt, Cond.instanceMethod yX7_swingAt, Cond.selects RX7 yX7_swingAt yX7_swingAt, Cond.initialized RX7, Cond.code yX7_swingAt cX7_swingAt 8 (some .int), Cond.fieldLink RX7 9 "BowedPlate$Ways" "lesser" "[I", Cond.fieldLink RX7 15 "BowedPlate$Ways" "greater" "[I", Cond.fieldLink RX7 21 "BowedPlate$Ways" "heights" "[I", Cond.fieldLink RX7 18 "BowedPlate$Ways" "sign" "[I", Cond.methodLink RX7 44 Lib.Math.abs.name, Cond.static Lib.Math.abs.name]
def wsX8_place_r2 : List Cond := [Cond.initialized "java/lang/Math", Cond.code Lib.Math.abs.name Lib.Math.abs.code 1 (some .int), Cond.methodLink RX8 197 yX1_isStill, Cond.instanceMethod yX1_isStill, Cond.selects RX1 yX1_isStill yX1_isStill, Cond.initialized RX1, Cond.code yX1_isStill cX1_isStill 4 (some .boolean), Cond.fieldLink RX1 23 "BowedPlate$Figure" "ways" "LBowedPlate$Ways;", Cond.fieldLink RX1 27 "BowedPlate$Figure" "now" "LBowedPlate$State;", Cond.methodLink RX1 31 yX7_swingAt, Cond.methodLink RX8 201 yX8_asNumber, Cond.static yX8_asNumber, Cond.code yX8_asNumber cX8_asNumber 1 (some .int), Cond.methodLink RX8 101 yX5_clampOn, Cond.instanceMethod yX5_clampOn, Cond.selects RX5 yX5_clampOn yX5_clampOn, Cond.initialized RX5, Cond.code yX5_clampOn cX5_clampOn 4 (some .int), Cond.fieldLink RX5 21 "BowedPlate$State" "clamps" "I", Cond.fieldLink RX5 15 "BowedPlate$State" "clampColumns" "[I", Cond.fieldLink RX5 18 "BowedPlate$State" "clampRows" "[I", Cond.methodLink RX8 205 yX8_orNone, Cond.static yX8_orNone, Cond.code yX8_orNone cX8_orNone 1 (some .int)]
def wsX8_place : List Cond := .code yX8_place cX8_place 4 (some .int) :: ((wsX8_place_r1 ++ wsX8_place_r2) ++ wsX80 ++ wsX50 ++ wsX70 ++ wsX10)
def wsX8_way_r1 : List Cond := [Cond.fieldLink RX8 12 "BowedPlate" "ways" "LBowedPlate$Ways;", Cond.fieldLink RX8 35 "BowedPlate" "figure" "LBowedPlate$Figure;", Cond.fieldLink RX8 28 "BowedPlate" "choice" "LBowedPlate$Choice;", Cond.methodLink RX8 190 yX8_isWay, Cond.static yX8_isWay, Cond.initialized RX8, Cond.code yX8_isWay cX8_isWay 1 (some .boolean), Cond.methodLink RX8 217 yX7_noteOf, Cond.instanceMethod yX7_noteOf, Cond.selects RX7 yX7_noteOf yX7_noteOf, Cond.initialized RX7, Cond.code yX7_noteOf cX7_noteOf 2 (some .int), Cond.fieldLink RX7 9 "BowedPlate$Ways" "lesser" "[I", Cond.fieldLink RX7 15 "BowedPlate$Ways" "greater" "[I", Cond.fieldLink RX7 18 "BowedPlate$Ways" "sign" "[I", Cond.methodLink RX8 220 yX1_stillPlaces, Cond.instanceMethod yX1_stillPlaces, Cond.selects RX1 yX1_stillPlaces yX1_stillPlaces, Cond.initialized RX1, Cond.code yX1_stillPlaces cX1_stillPlaces 4 (some .int), Cond.static yX8_columnOf, Cond.code yX8_columnOf cX8_columnOf 1 (some .int), Cond.static yX8_rowOf, Cond.code yX8_rowOf cX8_rowOf 1 (some .int)]
def wsX8_way_r2 : List Cond := [Cond.methodLink RX1 49 yX1_isStill, Cond.instanceMethod yX1_isStill, Cond.selects RX1 yX1_isStill yX1_isStill, Cond.code yX1_isStill cX1_isStill 4 (some .boolean), Cond.fieldLink RX1 23 "BowedPlate$Figure" "ways" "LBowedPlate$Ways;", Cond.fieldLink RX1 27 "BowedPlate$Figure" "now" "LBowedPlate$State;", Cond.methodLink RX1 31 yX7_swingAt, Cond.instanceMethod yX7_swingAt, Cond.selects RX7 yX7_swingAt yX7_swingAt, Cond.code yX7_swingAt cX7_swingAt 8 (some .int), Cond.fieldLink RX7 21 "BowedPlate$Ways" "heights" "[I", Cond.methodLink RX7 44 Lib.Math.abs.name, Cond.static Lib.Math.abs.name, Cond.initialized "java/lang/Math", Cond.code Lib.Math.abs.name Lib.Math.abs.code 1 (some .int), Cond.static yX8_isPlace, Cond.code yX8_isPlace cX8_isPlace 2 (some .boolean), Cond.methodLink RX8 223 yX1_lines, Cond.instanceMethod yX1_lines, Cond.selects RX1 yX1_lines yX1_lines, Cond.code yX1_lines cX1_lines 4 (some .int), Cond.fieldLink RX1 9 "BowedPlate$Figure" "isOpen" "[Z", Cond.methodLink RX1 56 yX1_closeLine, Cond.instanceMethod yX1_closeLine]
def wsX8_way_r3 : List Cond := [Cond.selects RX1 yX1_closeLine yX1_closeLine, Cond.code yX1_closeLine cX1_closeLine 5 none, Cond.fieldLink RX1 19 "BowedPlate$Figure" "reaches" "I", Cond.fieldLink RX1 15 "BowedPlate$Figure" "reached" "[I", Cond.methodLink RX1 60 yX1_reach, Cond.instanceMethod yX1_reach, Cond.selects RX1 yX1_reach yX1_reach, Cond.code yX1_reach cX1_reach 3 none, Cond.static yX8_placeOf, Cond.code yX8_placeOf cX8_placeOf 2 (some .int), Cond.methodLink RX8 226 yX1_grainsOnLines, Cond.instanceMethod yX1_grainsOnLines, Cond.selects RX1 yX1_grainsOnLines yX1_grainsOnLines, Cond.code yX1_grainsOnLines cX1_grainsOnLines 4 (some .int), Cond.methodLink RX8 229 yX0_clampsAllow, Cond.instanceMethod yX0_clampsAllow, Cond.selects RX0 yX0_clampsAllow yX0_clampsAllow, Cond.initialized RX0, Cond.code yX0_clampsAllow cX0_clampsAllow 4 (some .boolean), Cond.fieldLink RX0 27 "BowedPlate$Choice" "now" "LBowedPlate$State;", Cond.fieldLink RX0 23 "BowedPlate$Choice" "ways" "LBowedPlate$Ways;", Cond.methodLink RX0 42 yX7_swingAt, Cond.methodLink RX8 201 yX8_asNumber, Cond.static yX8_asNumber]
def wsX8_way_r4 : List Cond := [Cond.code yX8_asNumber cX8_asNumber 1 (some .int)]
def wsX8_way : List Cond := .code yX8_way cX8_way 3 (some .int) :: ((wsX8_way_r1 ++ (wsX8_way_r2 ++ (wsX8_way_r3 ++ wsX8_way_r4))) ++ wsX80 ++ wsX70 ++ wsX10 ++ wsX50 ++ wsX00)
def wsX8_swing : List Cond := .code yX8_swing cX8_swing 4 (some .int) :: ([.fieldLink RX8 12 "BowedPlate" "ways" "LBowedPlate$Ways;", .methodLink RX8 190 yX8_isWay, .static yX8_isWay, .initialized RX8, .code yX8_isWay cX8_isWay 1 (some .boolean), .methodLink RX8 67 yX8_isPlace, .static yX8_isPlace, .code yX8_isPlace cX8_isPlace 2 (some .boolean), .methodLink RX8 193 yX7_swingAt, .instanceMethod yX7_swingAt, .selects RX7 yX7_swingAt yX7_swingAt, .initialized RX7, .code yX7_swingAt cX7_swingAt 8 (some .int), .fieldLink RX7 9 "BowedPlate$Ways" "lesser" "[I", .fieldLink RX7 15 "BowedPlate$Ways" "greater" "[I", .fieldLink RX7 21 "BowedPlate$Ways" "heights" "[I", .fieldLink RX7 18 "BowedPlate$Ways" "sign" "[I", .methodLink RX7 44 Lib.Math.abs.name, .static Lib.Math.abs.name, .initialized "java/lang/Math", .code Lib.Math.abs.name Lib.Math.abs.code 1 (some .int)] ++ wsX80 ++ wsX70)
def wsX8_sounds_r1 : List Cond := [Cond.fieldLink RX8 28 "BowedPlate" "choice" "LBowedPlate$Choice;", Cond.methodLink RX8 126 yX8_isBow, Cond.static yX8_isBow, Cond.initialized RX8, Cond.code yX8_isBow cX8_isBow 2 (some .boolean), Cond.methodLink RX8 256 yX8_isLine, Cond.static yX8_isLine, Cond.code yX8_isLine cX8_isLine 1 (some .boolean), Cond.methodLink RX8 232 yX0_wayFor, Cond.instanceMethod yX0_wayFor, Cond.selects RX0 yX0_wayFor yX0_wayFor, Cond.initialized RX0, Cond.code yX0_wayFor cX0_wayFor 4 (some .int), Cond.methodLink RX0 54 yX0_bowAllows, Cond.instanceMethod yX0_bowAllows, Cond.selects RX0 yX0_bowAllows yX0_bowAllows, Cond.code yX0_bowAllows cX0_bowAllows 4 (some .boolean), Cond.fieldLink RX0 27 "BowedPlate$Choice" "now" "LBowedPlate$State;", Cond.methodLink RX0 51 yX0_swingAtBow, Cond.instanceMethod yX0_swingAtBow, Cond.selects RX0 yX0_swingAtBow yX0_swingAtBow, Cond.code yX0_swingAtBow cX0_swingAtBow 4 (some .int), Cond.fieldLink RX0 23 "BowedPlate$Choice" "ways" "LBowedPlate$Ways;", Cond.methodLink RX0 42 yX7_swingAt]
def wsX8_sounds_r2 : List Cond := [Cond.instanceMethod yX7_swingAt, Cond.selects RX7 yX7_swingAt yX7_swingAt, Cond.initialized RX7, Cond.code yX7_swingAt cX7_swingAt 8 (some .int), Cond.fieldLink RX7 9 "BowedPlate$Ways" "lesser" "[I", Cond.fieldLink RX7 15 "BowedPlate$Ways" "greater" "[I", Cond.fieldLink RX7 21 "BowedPlate$Ways" "heights" "[I", Cond.fieldLink RX7 18 "BowedPlate$Ways" "sign" "[I", Cond.methodLink RX7 44 Lib.Math.abs.name, Cond.static Lib.Math.abs.name, Cond.initialized "java/lang/Math", Cond.code Lib.Math.abs.name Lib.Math.abs.code 1 (some .int), Cond.static yX8_isWay, Cond.code yX8_isWay cX8_isWay 1 (some .boolean), Cond.static yX8_isPlace, Cond.code yX8_isPlace cX8_isPlace 2 (some .boolean), Cond.methodLink RX0 58 yX0_clampsAllow, Cond.instanceMethod yX0_clampsAllow, Cond.selects RX0 yX0_clampsAllow yX0_clampsAllow, Cond.code yX0_clampsAllow cX0_clampsAllow 4 (some .boolean), Cond.methodLink RX8 205 yX8_orNone, Cond.static yX8_orNone, Cond.code yX8_orNone cX8_orNone 1 (some .int)]
def wsX8_sounds : List Cond := .code yX8_sounds cX8_sounds 3 (some .int) :: ((wsX8_sounds_r1 ++ wsX8_sounds_r2) ++ wsX80 ++ wsX00 ++ wsX50 ++ wsX70)
def wsX8_why_r1 : List Cond := [Cond.fieldLink RX8 28 "BowedPlate" "choice" "LBowedPlate$Choice;", Cond.methodLink RX8 190 yX8_isWay, Cond.static yX8_isWay, Cond.initialized RX8, Cond.code yX8_isWay cX8_isWay 1 (some .boolean), Cond.methodLink RX8 126 yX8_isBow, Cond.static yX8_isBow, Cond.code yX8_isBow cX8_isBow 2 (some .boolean), Cond.methodLink RX8 256 yX8_isLine, Cond.static yX8_isLine, Cond.code yX8_isLine cX8_isLine 1 (some .boolean), Cond.methodLink RX8 235 yX0_reasonOf, Cond.instanceMethod yX0_reasonOf, Cond.selects RX0 yX0_reasonOf yX0_reasonOf, Cond.initialized RX0, Cond.code yX0_reasonOf cX0_reasonOf 4 (some .int), Cond.methodLink RX0 58 yX0_clampsAllow, Cond.instanceMethod yX0_clampsAllow, Cond.selects RX0 yX0_clampsAllow yX0_clampsAllow, Cond.code yX0_clampsAllow cX0_clampsAllow 4 (some .boolean), Cond.fieldLink RX0 27 "BowedPlate$Choice" "now" "LBowedPlate$State;", Cond.fieldLink RX0 23 "BowedPlate$Choice" "ways" "LBowedPlate$Ways;", Cond.methodLink RX0 42 yX7_swingAt, Cond.instanceMethod yX7_swingAt]
def wsX8_why_r2 : List Cond := [Cond.selects RX7 yX7_swingAt yX7_swingAt, Cond.initialized RX7, Cond.code yX7_swingAt cX7_swingAt 8 (some .int), Cond.fieldLink RX7 9 "BowedPlate$Ways" "lesser" "[I", Cond.fieldLink RX7 15 "BowedPlate$Ways" "greater" "[I", Cond.fieldLink RX7 21 "BowedPlate$Ways" "heights" "[I", Cond.fieldLink RX7 18 "BowedPlate$Ways" "sign" "[I", Cond.methodLink RX7 44 Lib.Math.abs.name, Cond.static Lib.Math.abs.name, Cond.initialized "java/lang/Math", Cond.code Lib.Math.abs.name Lib.Math.abs.code 1 (some .int), Cond.static yX8_isPlace, Cond.code yX8_isPlace cX8_isPlace 2 (some .boolean), Cond.methodLink RX0 54 yX0_bowAllows, Cond.instanceMethod yX0_bowAllows, Cond.selects RX0 yX0_bowAllows yX0_bowAllows, Cond.code yX0_bowAllows cX0_bowAllows 4 (some .boolean), Cond.methodLink RX0 51 yX0_swingAtBow, Cond.instanceMethod yX0_swingAtBow, Cond.selects RX0 yX0_swingAtBow yX0_swingAtBow, Cond.code yX0_swingAtBow cX0_swingAtBow 4 (some .int), Cond.methodLink RX0 62 yX0_wayFor, Cond.instanceMethod yX0_wayFor, Cond.selects RX0 yX0_wayFor yX0_wayFor]
def wsX8_why_r3 : List Cond := [Cond.code yX0_wayFor cX0_wayFor 4 (some .int)]
def wsX8_why : List Cond := .code yX8_why cX8_why 4 (some .int) :: ((wsX8_why_r1 ++ (wsX8_why_r2 ++ wsX8_why_r3)) ++ wsX80 ++ wsX00 ++ wsX50 ++ wsX70)
def wsX8_possible_r1 : List Cond := [Cond.fieldLink RX8 28 "BowedPlate" "choice" "LBowedPlate$Choice;", Cond.methodLink RX8 238 yX0_findPossible, Cond.instanceMethod yX0_findPossible, Cond.selects RX0 yX0_findPossible yX0_findPossible, Cond.initialized RX0, Cond.code yX0_findPossible cX0_findPossible 2 none, Cond.fieldLink RX0 19 "BowedPlate$Choice" "isTaken" "[Z", Cond.fieldLink RX0 15 "BowedPlate$Choice" "possibleWays" "I", Cond.fieldLink RX0 9 "BowedPlate$Choice" "possibleWay" "[I", Cond.methodLink RX0 58 yX0_clampsAllow, Cond.instanceMethod yX0_clampsAllow, Cond.selects RX0 yX0_clampsAllow yX0_clampsAllow, Cond.code yX0_clampsAllow cX0_clampsAllow 4 (some .boolean), Cond.fieldLink RX0 27 "BowedPlate$Choice" "now" "LBowedPlate$State;", Cond.fieldLink RX0 23 "BowedPlate$Choice" "ways" "LBowedPlate$Ways;", Cond.methodLink RX0 42 yX7_swingAt, Cond.instanceMethod yX7_swingAt, Cond.selects RX7 yX7_swingAt yX7_swingAt, Cond.initialized RX7, Cond.code yX7_swingAt cX7_swingAt 8 (some .int), Cond.fieldLink RX7 9 "BowedPlate$Ways" "lesser" "[I", Cond.fieldLink RX7 15 "BowedPlate$Ways" "greater" "[I", Cond.fieldLink RX7 21 "BowedPlate$Ways" "heights" "[I", Cond.fieldLink RX7 18 "BowedPlate$Ways" "sign" "[I"]
def wsX8_possible_r2 : List Cond := [Cond.methodLink RX7 44 Lib.Math.abs.name, Cond.static Lib.Math.abs.name, Cond.initialized "java/lang/Math", Cond.code Lib.Math.abs.name Lib.Math.abs.code 1 (some .int), Cond.static yX8_isWay, Cond.initialized RX8, Cond.code yX8_isWay cX8_isWay 1 (some .boolean), Cond.static yX8_isPlace, Cond.code yX8_isPlace cX8_isPlace 2 (some .boolean), Cond.methodLink RX0 66 yX0_takesBow, Cond.instanceMethod yX0_takesBow, Cond.selects RX0 yX0_takesBow yX0_takesBow, Cond.code yX0_takesBow cX0_takesBow 4 (some .boolean), Cond.methodLink RX0 54 yX0_bowAllows, Cond.instanceMethod yX0_bowAllows, Cond.selects RX0 yX0_bowAllows yX0_bowAllows, Cond.code yX0_bowAllows cX0_bowAllows 4 (some .boolean), Cond.methodLink RX0 51 yX0_swingAtBow, Cond.instanceMethod yX0_swingAtBow, Cond.selects RX0 yX0_swingAtBow yX0_swingAtBow, Cond.code yX0_swingAtBow cX0_swingAtBow 4 (some .int)]
def wsX8_possible : List Cond := .code yX8_possible cX8_possible 2 (some .int) :: ((wsX8_possible_r1 ++ wsX8_possible_r2) ++ wsX80 ++ wsX00 ++ wsX50 ++ wsX70)
def wsX8_waiting_r1 : List Cond := [Cond.fieldLink RX8 19 "BowedPlate" "now" "LBowedPlate$State;", Cond.fieldLink RX8 28 "BowedPlate" "choice" "LBowedPlate$Choice;", Cond.methodLink RX8 232 yX0_wayFor, Cond.instanceMethod yX0_wayFor, Cond.selects RX0 yX0_wayFor yX0_wayFor, Cond.initialized RX0, Cond.code yX0_wayFor cX0_wayFor 4 (some .int), Cond.methodLink RX0 54 yX0_bowAllows, Cond.instanceMethod yX0_bowAllows, Cond.selects RX0 yX0_bowAllows yX0_bowAllows, Cond.code yX0_bowAllows cX0_bowAllows 4 (some .boolean), Cond.fieldLink RX0 27 "BowedPlate$Choice" "now" "LBowedPlate$State;", Cond.methodLink RX0 51 yX0_swingAtBow, Cond.instanceMethod yX0_swingAtBow, Cond.selects RX0 yX0_swingAtBow yX0_swingAtBow, Cond.code yX0_swingAtBow cX0_swingAtBow 4 (some .int), Cond.fieldLink RX0 23 "BowedPlate$Choice" "ways" "LBowedPlate$Ways;", Cond.methodLink RX0 42 yX7_swingAt, Cond.instanceMethod yX7_swingAt, Cond.selects RX7 yX7_swingAt yX7_swingAt, Cond.initialized RX7, Cond.code yX7_swingAt cX7_swingAt 8 (some .int), Cond.fieldLink RX7 9 "BowedPlate$Ways" "lesser" "[I", Cond.fieldLink RX7 15 "BowedPlate$Ways" "greater" "[I"]
def wsX8_waiting_r2 : List Cond := [Cond.fieldLink RX7 21 "BowedPlate$Ways" "heights" "[I", Cond.fieldLink RX7 18 "BowedPlate$Ways" "sign" "[I", Cond.methodLink RX7 44 Lib.Math.abs.name, Cond.static Lib.Math.abs.name, Cond.initialized "java/lang/Math", Cond.code Lib.Math.abs.name Lib.Math.abs.code 1 (some .int), Cond.static yX8_isWay, Cond.initialized RX8, Cond.code yX8_isWay cX8_isWay 1 (some .boolean), Cond.static yX8_isPlace, Cond.code yX8_isPlace cX8_isPlace 2 (some .boolean), Cond.methodLink RX0 58 yX0_clampsAllow, Cond.instanceMethod yX0_clampsAllow, Cond.selects RX0 yX0_clampsAllow yX0_clampsAllow, Cond.code yX0_clampsAllow cX0_clampsAllow 4 (some .boolean), Cond.methodLink RX8 205 yX8_orNone, Cond.static yX8_orNone, Cond.code yX8_orNone cX8_orNone 1 (some .int)]
def wsX8_waiting : List Cond := .code yX8_waiting cX8_waiting 3 (some .int) :: ((wsX8_waiting_r1 ++ wsX8_waiting_r2) ++ wsX80 ++ wsX50 ++ wsX40 ++ wsX00 ++ wsX70)
def wsX8_sand : List Cond := .code yX8_sand cX8_sand 5 (some .int) :: ([.fieldLink RX8 19 "BowedPlate" "now" "LBowedPlate$State;", .methodLink RX8 256 yX8_isLine, .static yX8_isLine, .initialized RX8, .code yX8_isLine cX8_isLine 1 (some .boolean), .methodLink RX8 75 yX8_placeOf, .static yX8_placeOf, .code yX8_placeOf cX8_placeOf 2 (some .int)] ++ wsX80 ++ wsX50)
def wsX8_count_r1 : List Cond := [Cond.fieldLink RX8 19 "BowedPlate" "now" "LBowedPlate$State;", Cond.fieldLink RX8 28 "BowedPlate" "choice" "LBowedPlate$Choice;", Cond.fieldLink RX8 56 "BowedPlate" "history" "LBowedPlate$History;", Cond.fieldLink RX8 49 "BowedPlate" "text" "LBowedPlate$Text;", Cond.methodLink RX8 87 yX5_allGrains, Cond.instanceMethod yX5_allGrains, Cond.selects RX5 yX5_allGrains yX5_allGrains, Cond.initialized RX5, Cond.code yX5_allGrains cX5_allGrains 3 (some .int), Cond.fieldLink RX5 9 "BowedPlate$State" "grains" "[I", Cond.methodLink RX8 205 yX8_orNone, Cond.static yX8_orNone, Cond.initialized RX8, Cond.code yX8_orNone cX8_orNone 1 (some .int), Cond.methodLink RX8 238 yX0_findPossible, Cond.instanceMethod yX0_findPossible, Cond.selects RX0 yX0_findPossible yX0_findPossible, Cond.initialized RX0, Cond.code yX0_findPossible cX0_findPossible 2 none, Cond.fieldLink RX0 19 "BowedPlate$Choice" "isTaken" "[Z", Cond.fieldLink RX0 15 "BowedPlate$Choice" "possibleWays" "I", Cond.fieldLink RX0 9 "BowedPlate$Choice" "possibleWay" "[I", Cond.methodLink RX0 58 yX0_clampsAllow, Cond.instanceMethod yX0_clampsAllow]
def wsX8_count_r2 : List Cond := [Cond.selects RX0 yX0_clampsAllow yX0_clampsAllow, Cond.code yX0_clampsAllow cX0_clampsAllow 4 (some .boolean), Cond.fieldLink RX0 27 "BowedPlate$Choice" "now" "LBowedPlate$State;", Cond.fieldLink RX0 23 "BowedPlate$Choice" "ways" "LBowedPlate$Ways;", Cond.methodLink RX0 42 yX7_swingAt, Cond.instanceMethod yX7_swingAt, Cond.selects RX7 yX7_swingAt yX7_swingAt, Cond.initialized RX7, Cond.code yX7_swingAt cX7_swingAt 8 (some .int), Cond.fieldLink RX7 9 "BowedPlate$Ways" "lesser" "[I", Cond.fieldLink RX7 15 "BowedPlate$Ways" "greater" "[I", Cond.fieldLink RX7 21 "BowedPlate$Ways" "heights" "[I", Cond.fieldLink RX7 18 "BowedPlate$Ways" "sign" "[I", Cond.methodLink RX7 44 Lib.Math.abs.name, Cond.static Lib.Math.abs.name, Cond.initialized "java/lang/Math", Cond.code Lib.Math.abs.name Lib.Math.abs.code 1 (some .int), Cond.static yX8_isWay, Cond.code yX8_isWay cX8_isWay 1 (some .boolean), Cond.static yX8_isPlace, Cond.code yX8_isPlace cX8_isPlace 2 (some .boolean), Cond.methodLink RX0 66 yX0_takesBow, Cond.instanceMethod yX0_takesBow, Cond.selects RX0 yX0_takesBow yX0_takesBow]
def wsX8_count_r3 : List Cond := [Cond.code yX0_takesBow cX0_takesBow 4 (some .boolean), Cond.methodLink RX0 54 yX0_bowAllows, Cond.instanceMethod yX0_bowAllows, Cond.selects RX0 yX0_bowAllows yX0_bowAllows, Cond.code yX0_bowAllows cX0_bowAllows 4 (some .boolean), Cond.methodLink RX0 51 yX0_swingAtBow, Cond.instanceMethod yX0_swingAtBow, Cond.selects RX0 yX0_swingAtBow yX0_swingAtBow, Cond.code yX0_swingAtBow cX0_swingAtBow 4 (some .int), Cond.methodLink RX8 267 yX5_mostGrains, Cond.instanceMethod yX5_mostGrains, Cond.selects RX5 yX5_mostGrains yX5_mostGrains, Cond.code yX5_mostGrains cX5_mostGrains 3 (some .int), Cond.methodLink RX5 71 Lib.Math.max.name, Cond.static Lib.Math.max.name, Cond.code Lib.Math.max.name Lib.Math.max.code 2 (some .int)]
def wsX8_count : List Cond := .code yX8_count cX8_count 2 (some .int) :: ((wsX8_count_r1 ++ (wsX8_count_r2 ++ wsX8_count_r3)) ++ wsX80 ++ wsX50 ++ wsX40 ++ wsX00 ++ wsX20 ++ wsX60 ++ wsX70)
def wsX8_clampAt : List Cond := .code yX8_clampAt cX8_clampAt 3 (some .int) :: ([.fieldLink RX8 19 "BowedPlate" "now" "LBowedPlate$State;", .methodLink RX8 110 yX8_isClamp, .instanceMethod yX8_isClamp, .selects RX8 yX8_isClamp yX8_isClamp, .initialized RX8, .code yX8_isClamp cX8_isClamp 2 (some .boolean)] ++ wsX80 ++ wsX50)
def wsX9_wave : List Cond := .code yX9_wave cX9_wave 3 (some .int) :: ([])
def wsX9_size : List Cond := .code yX9_size cX9_size 1 (some .int) :: ([])
def wsX9_findWays : List Cond := .code yX9_findWays cX9_findWays 8 none :: ([.fieldLink RX9 7 "BowedPlateModel" "low" "[I", .fieldLink RX9 13 "BowedPlateModel" "high" "[I", .fieldLink RX9 16 "BowedPlateModel" "minus" "[I", .fieldLink RX9 19 "BowedPlateModel" "swings" "[I", .methodLink RX9 47 yX9_wave, .static yX9_wave, .initialized RX9, .code yX9_wave cX9_wave 3 (some .int), .methodLink RX9 51 yX9_size, .static yX9_size, .code yX9_size cX9_size 1 (some .int)] ++ wsX90)
def wsX9_init_r1 : List Cond := [Cond.methodLink RX9 1 objectInit, Cond.instanceMethod objectInit, Cond.code objectInit ⟨#[0xb1]⟩ 1 none, Cond.arrayClass .int, Cond.fieldLink RX9 7 "BowedPlateModel" "low" "[I", Cond.fieldLink RX9 13 "BowedPlateModel" "high" "[I", Cond.fieldLink RX9 16 "BowedPlateModel" "minus" "[I", Cond.fieldLink RX9 19 "BowedPlateModel" "swings" "[I", Cond.fieldLink RX9 22 "BowedPlateModel" "s" "[I", Cond.fieldLink RX9 25 "BowedPlateModel" "before" "[I", Cond.fieldLink RX9 28 "BowedPlateModel" "kept" "[I", Cond.fieldLink RX9 31 "BowedPlateModel" "text" "[I", Cond.fieldLink RX9 34 "BowedPlateModel" "more" "[I", Cond.arrayClass .boolean, Cond.fieldLink RX9 37 "BowedPlateModel" "isMet" "[Z", Cond.fieldLink RX9 41 "BowedPlateModel" "row" "[I", Cond.methodLink RX9 44 yX9_findWays, Cond.instanceMethod yX9_findWays, Cond.selects RX9 yX9_findWays yX9_findWays, Cond.initialized RX9, Cond.code yX9_findWays cX9_findWays 8 none, Cond.methodLink RX9 47 yX9_wave, Cond.static yX9_wave, Cond.code yX9_wave cX9_wave 3 (some .int)]
def wsX9_init_r2 : List Cond := [Cond.methodLink RX9 51 yX9_size, Cond.static yX9_size, Cond.code yX9_size cX9_size 1 (some .int)]
def wsX9_init : List Cond := .code yX9_init cX9_init 2 none :: ((wsX9_init_r1 ++ wsX9_init_r2) ++ wsX90)
def wsX9_in : List Cond := .code yX9_in cX9_in 3 (some .boolean) :: ([])
def wsX9_noteOf : List Cond := .code yX9_noteOf cX9_noteOf 2 (some .int) :: ([.fieldLink RX9 7 "BowedPlateModel" "low" "[I", .fieldLink RX9 13 "BowedPlateModel" "high" "[I", .fieldLink RX9 16 "BowedPlateModel" "minus" "[I"] ++ wsX90)
def wsX9_swingAt : List Cond := .code yX9_swingAt cX9_swingAt 3 (some .int) :: ([.fieldLink RX9 19 "BowedPlateModel" "swings" "[I"] ++ wsX90)
def wsX9_isOn : List Cond := .code yX9_isOn cX9_isOn 2 (some .boolean) :: ([.methodLink RX9 55 yX9_in, .static yX9_in, .initialized RX9, .code yX9_in cX9_in 3 (some .boolean)])
def wsX9_isWay : List Cond := .code yX9_isWay cX9_isWay 1 (some .boolean) :: ([.methodLink RX9 55 yX9_in, .static yX9_in, .initialized RX9, .code yX9_in cX9_in 3 (some .boolean)])
def wsX9_isBow : List Cond := .code yX9_isBow cX9_isBow 2 (some .boolean) :: ([.methodLink RX9 55 yX9_in, .static yX9_in, .initialized RX9, .code yX9_in cX9_in 3 (some .boolean)])
def wsX9_know : List Cond := .code yX9_know cX9_know 2 none :: ([.fieldLink RX9 59 "BowedPlateModel" "known" "I", .fieldLink RX9 25 "BowedPlateModel" "before" "[I", .fieldLink RX9 22 "BowedPlateModel" "s" "[I"] ++ wsX90)
def wsX9_bowPlace : List Cond := .code yX9_bowPlace cX9_bowPlace 2 (some .int) :: ([])
def wsX9_isHeld : List Cond := .code yX9_isHeld cX9_isHeld 4 (some .boolean) :: ([.fieldLink RX9 22 "BowedPlateModel" "s" "[I", .methodLink RX9 63 yX9_swingAt, .instanceMethod yX9_swingAt, .selects RX9 yX9_swingAt yX9_swingAt, .initialized RX9, .code yX9_swingAt cX9_swingAt 3 (some .int), .fieldLink RX9 19 "BowedPlateModel" "swings" "[I"] ++ wsX90)
def wsX9_canSound : List Cond := .code yX9_canSound cX9_canSound 3 (some .boolean) :: ([.fieldLink RX9 22 "BowedPlateModel" "s" "[I", .methodLink RX9 66 yX9_isHeld, .instanceMethod yX9_isHeld, .selects RX9 yX9_isHeld yX9_isHeld, .initialized RX9, .code yX9_isHeld cX9_isHeld 4 (some .boolean), .methodLink RX9 63 yX9_swingAt, .instanceMethod yX9_swingAt, .selects RX9 yX9_swingAt yX9_swingAt, .code yX9_swingAt cX9_swingAt 3 (some .int), .fieldLink RX9 19 "BowedPlateModel" "swings" "[I"] ++ wsX90)
def wsX9_soundsAt : List Cond := .code yX9_soundsAt cX9_soundsAt 3 (some .int) :: ([.methodLink RX9 70 yX9_canSound, .instanceMethod yX9_canSound, .selects RX9 yX9_canSound yX9_canSound, .initialized RX9, .code yX9_canSound cX9_canSound 3 (some .boolean), .fieldLink RX9 22 "BowedPlateModel" "s" "[I", .methodLink RX9 66 yX9_isHeld, .instanceMethod yX9_isHeld, .selects RX9 yX9_isHeld yX9_isHeld, .code yX9_isHeld cX9_isHeld 4 (some .boolean), .methodLink RX9 63 yX9_swingAt, .instanceMethod yX9_swingAt, .selects RX9 yX9_swingAt yX9_swingAt, .code yX9_swingAt cX9_swingAt 3 (some .int), .fieldLink RX9 19 "BowedPlateModel" "swings" "[I"] ++ wsX90)
def wsX9_isPossible : List Cond := .code yX9_isPossible cX9_isPossible 4 (some .boolean) :: ([.methodLink RX9 74 yX9_bowPlace, .static yX9_bowPlace, .initialized RX9, .code yX9_bowPlace cX9_bowPlace 2 (some .int), .methodLink RX9 77 yX9_soundsAt, .instanceMethod yX9_soundsAt, .selects RX9 yX9_soundsAt yX9_soundsAt, .code yX9_soundsAt cX9_soundsAt 3 (some .int), .methodLink RX9 70 yX9_canSound, .instanceMethod yX9_canSound, .selects RX9 yX9_canSound yX9_canSound, .code yX9_canSound cX9_canSound 3 (some .boolean), .fieldLink RX9 22 "BowedPlateModel" "s" "[I", .methodLink RX9 66 yX9_isHeld, .instanceMethod yX9_isHeld, .selects RX9 yX9_isHeld yX9_isHeld, .code yX9_isHeld cX9_isHeld 4 (some .boolean), .methodLink RX9 63 yX9_swingAt, .instanceMethod yX9_swingAt, .selects RX9 yX9_swingAt yX9_swingAt, .code yX9_swingAt cX9_swingAt 3 (some .int), .fieldLink RX9 19 "BowedPlateModel" "swings" "[I"] ++ wsX90)
def wsX9_isEdge : List Cond := .code yX9_isEdge cX9_isEdge 3 (some .boolean) :: ([])
def wsX9_calmest : List Cond := .code yX9_calmest cX9_calmest 9 (some .int) :: ([.methodLink RX9 80 yX9_isOn, .static yX9_isOn, .initialized RX9, .code yX9_isOn cX9_isOn 2 (some .boolean), .methodLink RX9 55 yX9_in, .static yX9_in, .code yX9_in cX9_in 3 (some .boolean), .methodLink RX9 63 yX9_swingAt, .instanceMethod yX9_swingAt, .selects RX9 yX9_swingAt yX9_swingAt, .code yX9_swingAt cX9_swingAt 3 (some .int), .fieldLink RX9 19 "BowedPlateModel" "swings" "[I"] ++ wsX90)
def wsX9_stroke : List Cond := .code yX9_stroke cX9_stroke 6 none :: ([.fieldLink RX9 34 "BowedPlateModel" "more" "[I", .fieldLink RX9 22 "BowedPlateModel" "s" "[I", .methodLink RX9 63 yX9_swingAt, .instanceMethod yX9_swingAt, .selects RX9 yX9_swingAt yX9_swingAt, .initialized RX9, .code yX9_swingAt cX9_swingAt 3 (some .int), .fieldLink RX9 19 "BowedPlateModel" "swings" "[I", .methodLink RX9 83 yX9_isEdge, .static yX9_isEdge, .code yX9_isEdge cX9_isEdge 3 (some .boolean), .methodLink RX9 86 yX9_calmest, .instanceMethod yX9_calmest, .selects RX9 yX9_calmest yX9_calmest, .code yX9_calmest cX9_calmest 9 (some .int), .methodLink RX9 80 yX9_isOn, .static yX9_isOn, .code yX9_isOn cX9_isOn 2 (some .boolean), .methodLink RX9 55 yX9_in, .static yX9_in, .code yX9_in cX9_in 3 (some .boolean)] ++ wsX90)
def wsX9_allGrains : List Cond := .code yX9_allGrains cX9_allGrains 3 (some .int) :: ([.fieldLink RX9 22 "BowedPlateModel" "s" "[I"] ++ wsX90)
def wsX9_strew : List Cond := .code yX9_strew cX9_strew 4 (some .int) :: ([.fieldLink RX9 22 "BowedPlateModel" "s" "[I", .methodLink RX9 80 yX9_isOn, .static yX9_isOn, .initialized RX9, .code yX9_isOn cX9_isOn 2 (some .boolean), .methodLink RX9 55 yX9_in, .static yX9_in, .code yX9_in cX9_in 3 (some .boolean), .methodLink RX9 89 yX9_know, .instanceMethod yX9_know, .selects RX9 yX9_know yX9_know, .code yX9_know cX9_know 2 none, .fieldLink RX9 59 "BowedPlateModel" "known" "I", .fieldLink RX9 25 "BowedPlateModel" "before" "[I"] ++ wsX90)
def wsX9_sweep : List Cond := .code yX9_sweep cX9_sweep 4 (some .int) :: ([.fieldLink RX9 22 "BowedPlateModel" "s" "[I", .methodLink RX9 55 yX9_in, .static yX9_in, .initialized RX9, .code yX9_in cX9_in 3 (some .boolean), .methodLink RX9 89 yX9_know, .instanceMethod yX9_know, .selects RX9 yX9_know yX9_know, .code yX9_know cX9_know 2 none, .fieldLink RX9 59 "BowedPlateModel" "known" "I", .fieldLink RX9 25 "BowedPlateModel" "before" "[I", .methodLink RX9 92 yX9_allGrains, .instanceMethod yX9_allGrains, .selects RX9 yX9_allGrains yX9_allGrains, .code yX9_allGrains cX9_allGrains 3 (some .int)] ++ wsX90)
def wsX9_clampOn : List Cond := .code yX9_clampOn cX9_clampOn 3 (some .int) :: ([.fieldLink RX9 22 "BowedPlateModel" "s" "[I"] ++ wsX90)
def wsX9_clamp : List Cond := .code yX9_clamp cX9_clamp 3 (some .int) :: ([.fieldLink RX9 22 "BowedPlateModel" "s" "[I", .methodLink RX9 80 yX9_isOn, .static yX9_isOn, .initialized RX9, .code yX9_isOn cX9_isOn 2 (some .boolean), .methodLink RX9 55 yX9_in, .static yX9_in, .code yX9_in cX9_in 3 (some .boolean), .methodLink RX9 96 yX9_clampOn, .instanceMethod yX9_clampOn, .selects RX9 yX9_clampOn yX9_clampOn, .code yX9_clampOn cX9_clampOn 3 (some .int), .methodLink RX9 89 yX9_know, .instanceMethod yX9_know, .selects RX9 yX9_know yX9_know, .code yX9_know cX9_know 2 none, .fieldLink RX9 59 "BowedPlateModel" "known" "I", .fieldLink RX9 25 "BowedPlateModel" "before" "[I"] ++ wsX90)
def wsX9_unclamp : List Cond := .code yX9_unclamp cX9_unclamp 3 (some .int) :: ([.fieldLink RX9 22 "BowedPlateModel" "s" "[I", .methodLink RX9 55 yX9_in, .static yX9_in, .initialized RX9, .code yX9_in cX9_in 3 (some .boolean), .methodLink RX9 89 yX9_know, .instanceMethod yX9_know, .selects RX9 yX9_know yX9_know, .code yX9_know cX9_know 2 none, .fieldLink RX9 59 "BowedPlateModel" "known" "I", .fieldLink RX9 25 "BowedPlateModel" "before" "[I"] ++ wsX90)
def wsX9_set : List Cond := .code yX9_set cX9_set 6 (some .int) :: ([.fieldLink RX9 22 "BowedPlateModel" "s" "[I", .methodLink RX9 55 yX9_in, .static yX9_in, .initialized RX9, .code yX9_in cX9_in 3 (some .boolean), .methodLink RX9 89 yX9_know, .instanceMethod yX9_know, .selects RX9 yX9_know yX9_know, .code yX9_know cX9_know 2 none, .fieldLink RX9 59 "BowedPlateModel" "known" "I", .fieldLink RX9 25 "BowedPlateModel" "before" "[I"] ++ wsX90)
def wsX9_waits : List Cond := .code yX9_waits cX9_waits 5 (some .int) :: ([.fieldLink RX9 22 "BowedPlateModel" "s" "[I"] ++ wsX90)
def wsX9_bow : List Cond := .code yX9_bow cX9_bow 4 (some .int) :: ([.fieldLink RX9 22 "BowedPlateModel" "s" "[I", .methodLink RX9 99 yX9_isBow, .static yX9_isBow, .initialized RX9, .code yX9_isBow cX9_isBow 2 (some .boolean), .methodLink RX9 55 yX9_in, .static yX9_in, .code yX9_in cX9_in 3 (some .boolean), .methodLink RX9 89 yX9_know, .instanceMethod yX9_know, .selects RX9 yX9_know yX9_know, .code yX9_know cX9_know 2 none, .fieldLink RX9 59 "BowedPlateModel" "known" "I", .fieldLink RX9 25 "BowedPlateModel" "before" "[I", .methodLink RX9 102 yX9_waits, .instanceMethod yX9_waits, .selects RX9 yX9_waits yX9_waits, .code yX9_waits cX9_waits 5 (some .int)] ++ wsX90)
def wsX9_strikeAt : List Cond := .code yX9_strikeAt cX9_strikeAt 3 none :: ([.fieldLink RX9 22 "BowedPlateModel" "s" "[I"] ++ wsX90)
def wsX9_strike : List Cond := .code yX9_strike cX9_strike 4 (some .int) :: ([.fieldLink RX9 22 "BowedPlateModel" "s" "[I", .methodLink RX9 55 yX9_in, .static yX9_in, .initialized RX9, .code yX9_in cX9_in 3 (some .boolean), .methodLink RX9 89 yX9_know, .instanceMethod yX9_know, .selects RX9 yX9_know yX9_know, .code yX9_know cX9_know 2 none, .fieldLink RX9 59 "BowedPlateModel" "known" "I", .fieldLink RX9 25 "BowedPlateModel" "before" "[I", .methodLink RX9 106 yX9_strikeAt, .instanceMethod yX9_strikeAt, .selects RX9 yX9_strikeAt yX9_strikeAt, .code yX9_strikeAt cX9_strikeAt 3 none] ++ wsX90)
def wsX9_play_r1 : List Cond := [Cond.fieldLink RX9 22 "BowedPlateModel" "s" "[I", Cond.methodLink RX9 55 yX9_in, Cond.static yX9_in, Cond.initialized RX9, Cond.code yX9_in cX9_in 3 (some .boolean), Cond.methodLink RX9 89 yX9_know, Cond.instanceMethod yX9_know, Cond.selects RX9 yX9_know yX9_know, Cond.code yX9_know cX9_know 2 none, Cond.fieldLink RX9 59 "BowedPlateModel" "known" "I", Cond.fieldLink RX9 25 "BowedPlateModel" "before" "[I", Cond.methodLink RX9 74 yX9_bowPlace, Cond.static yX9_bowPlace, Cond.code yX9_bowPlace cX9_bowPlace 2 (some .int), Cond.methodLink RX9 77 yX9_soundsAt, Cond.instanceMethod yX9_soundsAt, Cond.selects RX9 yX9_soundsAt yX9_soundsAt, Cond.code yX9_soundsAt cX9_soundsAt 3 (some .int), Cond.methodLink RX9 70 yX9_canSound, Cond.instanceMethod yX9_canSound, Cond.selects RX9 yX9_canSound yX9_canSound, Cond.code yX9_canSound cX9_canSound 3 (some .boolean), Cond.methodLink RX9 66 yX9_isHeld, Cond.instanceMethod yX9_isHeld]
def wsX9_play_r2 : List Cond := [Cond.selects RX9 yX9_isHeld yX9_isHeld, Cond.code yX9_isHeld cX9_isHeld 4 (some .boolean), Cond.methodLink RX9 63 yX9_swingAt, Cond.instanceMethod yX9_swingAt, Cond.selects RX9 yX9_swingAt yX9_swingAt, Cond.code yX9_swingAt cX9_swingAt 3 (some .int), Cond.fieldLink RX9 19 "BowedPlateModel" "swings" "[I", Cond.methodLink RX9 106 yX9_strikeAt, Cond.instanceMethod yX9_strikeAt, Cond.selects RX9 yX9_strikeAt yX9_strikeAt, Cond.code yX9_strikeAt cX9_strikeAt 3 none, Cond.methodLink RX9 110 yX9_stroke, Cond.instanceMethod yX9_stroke, Cond.selects RX9 yX9_stroke yX9_stroke, Cond.code yX9_stroke cX9_stroke 6 none, Cond.fieldLink RX9 34 "BowedPlateModel" "more" "[I", Cond.methodLink RX9 83 yX9_isEdge, Cond.static yX9_isEdge, Cond.code yX9_isEdge cX9_isEdge 3 (some .boolean), Cond.methodLink RX9 86 yX9_calmest, Cond.instanceMethod yX9_calmest, Cond.selects RX9 yX9_calmest yX9_calmest, Cond.code yX9_calmest cX9_calmest 9 (some .int), Cond.methodLink RX9 80 yX9_isOn]
def wsX9_play_r3 : List Cond := [Cond.static yX9_isOn, Cond.code yX9_isOn cX9_isOn 2 (some .boolean)]
def wsX9_play : List Cond := .code yX9_play cX9_play 7 (some .int) :: ((wsX9_play_r1 ++ (wsX9_play_r2 ++ wsX9_play_r3)) ++ wsX90)
def wsX9_type : List Cond := .code yX9_type cX9_type 2 (some .int) :: ([.fieldLink RX9 113 "BowedPlateModel" "typed" "I", .fieldLink RX9 31 "BowedPlateModel" "text" "[I"] ++ wsX90)
def wsX9_clearText : List Cond := .code yX9_clearText cX9_clearText 2 (some .int) :: ([.fieldLink RX9 113 "BowedPlateModel" "typed" "I"] ++ wsX90)
def wsX9_sign : List Cond := .code yX9_sign cX9_sign 4 (some .int) :: ([.fieldLink RX9 116 "BowedPlateModel" "at" "I", .fieldLink RX9 113 "BowedPlateModel" "typed" "I", .fieldLink RX9 31 "BowedPlateModel" "text" "[I", .fieldLink RX9 119 "BowedPlateModel" "isWrong" "Z", .methodLink RX9 55 yX9_in, .static yX9_in, .initialized RX9, .code yX9_in cX9_in 3 (some .boolean)] ++ wsX90)
def wsX9_number : List Cond := .code yX9_number cX9_number 5 (some .int) :: ([.fieldLink RX9 119 "BowedPlateModel" "isWrong" "Z", .fieldLink RX9 116 "BowedPlateModel" "at" "I", .fieldLink RX9 113 "BowedPlateModel" "typed" "I", .fieldLink RX9 31 "BowedPlateModel" "text" "[I", .methodLink RX9 123 yX9_sign, .instanceMethod yX9_sign, .selects RX9 yX9_sign yX9_sign, .initialized RX9, .code yX9_sign cX9_sign 4 (some .int), .methodLink RX9 55 yX9_in, .static yX9_in, .code yX9_in cX9_in 3 (some .boolean)] ++ wsX90)
def wsX9_go : List Cond := .code yX9_go cX9_go 11 (some .int) :: ([.fieldLink RX9 116 "BowedPlateModel" "at" "I", .fieldLink RX9 119 "BowedPlateModel" "isWrong" "Z", .fieldLink RX9 113 "BowedPlateModel" "typed" "I", .fieldLink RX9 31 "BowedPlateModel" "text" "[I", .methodLink RX9 126 yX9_number, .instanceMethod yX9_number, .selects RX9 yX9_number yX9_number, .initialized RX9, .code yX9_number cX9_number 5 (some .int), .methodLink RX9 123 yX9_sign, .instanceMethod yX9_sign, .selects RX9 yX9_sign yX9_sign, .code yX9_sign cX9_sign 4 (some .int), .methodLink RX9 55 yX9_in, .static yX9_in, .code yX9_in cX9_in 3 (some .boolean), .methodLink RX9 102 yX9_waits, .instanceMethod yX9_waits, .selects RX9 yX9_waits yX9_waits, .code yX9_waits cX9_waits 5 (some .int), .fieldLink RX9 22 "BowedPlateModel" "s" "[I"] ++ wsX90)
def wsX9_bowAll_r1 : List Cond := [Cond.fieldLink RX9 119 "BowedPlateModel" "isWrong" "Z", Cond.fieldLink RX9 116 "BowedPlateModel" "at" "I", Cond.fieldLink RX9 22 "BowedPlateModel" "s" "[I", Cond.methodLink RX9 129 yX9_go, Cond.instanceMethod yX9_go, Cond.selects RX9 yX9_go yX9_go, Cond.initialized RX9, Cond.code yX9_go cX9_go 11 (some .int), Cond.fieldLink RX9 113 "BowedPlateModel" "typed" "I", Cond.fieldLink RX9 31 "BowedPlateModel" "text" "[I", Cond.methodLink RX9 126 yX9_number, Cond.instanceMethod yX9_number, Cond.selects RX9 yX9_number yX9_number, Cond.code yX9_number cX9_number 5 (some .int), Cond.methodLink RX9 123 yX9_sign, Cond.instanceMethod yX9_sign, Cond.selects RX9 yX9_sign yX9_sign, Cond.code yX9_sign cX9_sign 4 (some .int), Cond.methodLink RX9 55 yX9_in, Cond.static yX9_in, Cond.code yX9_in cX9_in 3 (some .boolean), Cond.methodLink RX9 102 yX9_waits, Cond.instanceMethod yX9_waits, Cond.selects RX9 yX9_waits yX9_waits]
def wsX9_bowAll_r2 : List Cond := [Cond.code yX9_waits cX9_waits 5 (some .int), Cond.methodLink RX9 89 yX9_know, Cond.instanceMethod yX9_know, Cond.selects RX9 yX9_know yX9_know, Cond.code yX9_know cX9_know 2 none, Cond.fieldLink RX9 59 "BowedPlateModel" "known" "I", Cond.fieldLink RX9 25 "BowedPlateModel" "before" "[I"]
def wsX9_bowAll : List Cond := .code yX9_bowAll cX9_bowAll 2 (some .int) :: ((wsX9_bowAll_r1 ++ wsX9_bowAll_r2) ++ wsX90)
def wsX9_undo : List Cond := .code yX9_undo cX9_undo 2 (some .int) :: ([.fieldLink RX9 59 "BowedPlateModel" "known" "I", .fieldLink RX9 22 "BowedPlateModel" "s" "[I", .fieldLink RX9 25 "BowedPlateModel" "before" "[I"] ++ wsX90)
def wsX9_keep : List Cond := .code yX9_keep cX9_keep 2 (some .int) :: ([.fieldLink RX9 28 "BowedPlateModel" "kept" "[I", .fieldLink RX9 22 "BowedPlateModel" "s" "[I", .fieldLink RX9 133 "BowedPlateModel" "isKept" "Z", .methodLink RX9 92 yX9_allGrains, .instanceMethod yX9_allGrains, .selects RX9 yX9_allGrains yX9_allGrains, .initialized RX9, .code yX9_allGrains cX9_allGrains 3 (some .int)] ++ wsX90)
def wsX9_restore : List Cond := .code yX9_restore cX9_restore 2 (some .int) :: ([.fieldLink RX9 133 "BowedPlateModel" "isKept" "Z", .fieldLink RX9 22 "BowedPlateModel" "s" "[I", .fieldLink RX9 28 "BowedPlateModel" "kept" "[I", .methodLink RX9 89 yX9_know, .instanceMethod yX9_know, .selects RX9 yX9_know yX9_know, .initialized RX9, .code yX9_know cX9_know 2 none, .fieldLink RX9 59 "BowedPlateModel" "known" "I", .fieldLink RX9 25 "BowedPlateModel" "before" "[I", .methodLink RX9 92 yX9_allGrains, .instanceMethod yX9_allGrains, .selects RX9 yX9_allGrains yX9_allGrains, .code yX9_allGrains cX9_allGrains 3 (some .int)] ++ wsX90)
def wsX9_isStill : List Cond := .code yX9_isStill cX9_isStill 3 (some .boolean) :: ([.fieldLink RX9 22 "BowedPlateModel" "s" "[I", .methodLink RX9 63 yX9_swingAt, .instanceMethod yX9_swingAt, .selects RX9 yX9_swingAt yX9_swingAt, .initialized RX9, .code yX9_swingAt cX9_swingAt 3 (some .int), .fieldLink RX9 19 "BowedPlateModel" "swings" "[I"] ++ wsX90)
def wsX9_place : List Cond := .code yX9_place cX9_place 5 (some .int) :: ([.fieldLink RX9 22 "BowedPlateModel" "s" "[I", .methodLink RX9 80 yX9_isOn, .static yX9_isOn, .initialized RX9, .code yX9_isOn cX9_isOn 2 (some .boolean), .methodLink RX9 55 yX9_in, .static yX9_in, .code yX9_in cX9_in 3 (some .boolean), .methodLink RX9 63 yX9_swingAt, .instanceMethod yX9_swingAt, .selects RX9 yX9_swingAt yX9_swingAt, .code yX9_swingAt cX9_swingAt 3 (some .int), .fieldLink RX9 19 "BowedPlateModel" "swings" "[I", .methodLink RX9 136 yX9_isStill, .instanceMethod yX9_isStill, .selects RX9 yX9_isStill yX9_isStill, .code yX9_isStill cX9_isStill 3 (some .boolean), .methodLink RX9 96 yX9_clampOn, .instanceMethod yX9_clampOn, .selects RX9 yX9_clampOn yX9_clampOn, .code yX9_clampOn cX9_clampOn 3 (some .int)] ++ wsX90)
def wsX9_still : List Cond := .code yX9_still cX9_still 5 (some .int) :: ([.fieldLink RX9 22 "BowedPlateModel" "s" "[I", .methodLink RX9 136 yX9_isStill, .instanceMethod yX9_isStill, .selects RX9 yX9_isStill yX9_isStill, .initialized RX9, .code yX9_isStill cX9_isStill 3 (some .boolean), .methodLink RX9 63 yX9_swingAt, .instanceMethod yX9_swingAt, .selects RX9 yX9_swingAt yX9_swingAt, .code yX9_swingAt cX9_swingAt 3 (some .int), .fieldLink RX9 19 "BowedPlateModel" "swings" "[I"] ++ wsX90)
def wsX9_meet : List Cond := .code yX9_meet cX9_meet 7 none :: ([.fieldLink RX9 37 "BowedPlateModel" "isMet" "[Z", .fieldLink RX9 41 "BowedPlateModel" "row" "[I", .methodLink RX9 80 yX9_isOn, .static yX9_isOn, .initialized RX9, .code yX9_isOn cX9_isOn 2 (some .boolean), .methodLink RX9 55 yX9_in, .static yX9_in, .code yX9_in cX9_in 3 (some .boolean)] ++ wsX90)
def wsX9_lines : List Cond := .code yX9_lines cX9_lines 4 (some .int) :: ([.fieldLink RX9 37 "BowedPlateModel" "isMet" "[Z", .methodLink RX9 136 yX9_isStill, .instanceMethod yX9_isStill, .selects RX9 yX9_isStill yX9_isStill, .initialized RX9, .code yX9_isStill cX9_isStill 3 (some .boolean), .fieldLink RX9 22 "BowedPlateModel" "s" "[I", .methodLink RX9 63 yX9_swingAt, .instanceMethod yX9_swingAt, .selects RX9 yX9_swingAt yX9_swingAt, .code yX9_swingAt cX9_swingAt 3 (some .int), .fieldLink RX9 19 "BowedPlateModel" "swings" "[I", .methodLink RX9 139 yX9_meet, .instanceMethod yX9_meet, .selects RX9 yX9_meet yX9_meet, .code yX9_meet cX9_meet 7 none, .fieldLink RX9 41 "BowedPlateModel" "row" "[I", .methodLink RX9 80 yX9_isOn, .static yX9_isOn, .code yX9_isOn cX9_isOn 2 (some .boolean), .methodLink RX9 55 yX9_in, .static yX9_in, .code yX9_in cX9_in 3 (some .boolean)] ++ wsX90)
def wsX9_way_r1 : List Cond := [Cond.fieldLink RX9 7 "BowedPlateModel" "low" "[I", Cond.fieldLink RX9 13 "BowedPlateModel" "high" "[I", Cond.fieldLink RX9 16 "BowedPlateModel" "minus" "[I", Cond.methodLink RX9 142 yX9_isWay, Cond.static yX9_isWay, Cond.initialized RX9, Cond.code yX9_isWay cX9_isWay 1 (some .boolean), Cond.methodLink RX9 55 yX9_in, Cond.static yX9_in, Cond.code yX9_in cX9_in 3 (some .boolean), Cond.methodLink RX9 145 yX9_noteOf, Cond.instanceMethod yX9_noteOf, Cond.selects RX9 yX9_noteOf yX9_noteOf, Cond.code yX9_noteOf cX9_noteOf 2 (some .int), Cond.methodLink RX9 148 yX9_still, Cond.instanceMethod yX9_still, Cond.selects RX9 yX9_still yX9_still, Cond.code yX9_still cX9_still 5 (some .int), Cond.fieldLink RX9 22 "BowedPlateModel" "s" "[I", Cond.methodLink RX9 136 yX9_isStill, Cond.instanceMethod yX9_isStill, Cond.selects RX9 yX9_isStill yX9_isStill, Cond.code yX9_isStill cX9_isStill 3 (some .boolean), Cond.methodLink RX9 63 yX9_swingAt]
def wsX9_way_r2 : List Cond := [Cond.instanceMethod yX9_swingAt, Cond.selects RX9 yX9_swingAt yX9_swingAt, Cond.code yX9_swingAt cX9_swingAt 3 (some .int), Cond.fieldLink RX9 19 "BowedPlateModel" "swings" "[I", Cond.methodLink RX9 151 yX9_lines, Cond.instanceMethod yX9_lines, Cond.selects RX9 yX9_lines yX9_lines, Cond.code yX9_lines cX9_lines 4 (some .int), Cond.fieldLink RX9 37 "BowedPlateModel" "isMet" "[Z", Cond.methodLink RX9 139 yX9_meet, Cond.instanceMethod yX9_meet, Cond.selects RX9 yX9_meet yX9_meet, Cond.code yX9_meet cX9_meet 7 none, Cond.fieldLink RX9 41 "BowedPlateModel" "row" "[I", Cond.methodLink RX9 80 yX9_isOn, Cond.static yX9_isOn, Cond.code yX9_isOn cX9_isOn 2 (some .boolean), Cond.methodLink RX9 66 yX9_isHeld, Cond.instanceMethod yX9_isHeld, Cond.selects RX9 yX9_isHeld yX9_isHeld, Cond.code yX9_isHeld cX9_isHeld 4 (some .boolean)]
def wsX9_way : List Cond := .code yX9_way cX9_way 3 (some .int) :: ((wsX9_way_r1 ++ wsX9_way_r2) ++ wsX90)
def wsX9_swing : List Cond := .code yX9_swing cX9_swing 4 (some .int) :: ([.methodLink RX9 142 yX9_isWay, .static yX9_isWay, .initialized RX9, .code yX9_isWay cX9_isWay 1 (some .boolean), .methodLink RX9 55 yX9_in, .static yX9_in, .code yX9_in cX9_in 3 (some .boolean), .methodLink RX9 80 yX9_isOn, .static yX9_isOn, .code yX9_isOn cX9_isOn 2 (some .boolean), .methodLink RX9 63 yX9_swingAt, .instanceMethod yX9_swingAt, .selects RX9 yX9_swingAt yX9_swingAt, .code yX9_swingAt cX9_swingAt 3 (some .int), .fieldLink RX9 19 "BowedPlateModel" "swings" "[I"] ++ wsX90)
def wsX9_sounds_r1 : List Cond := [Cond.methodLink RX9 99 yX9_isBow, Cond.static yX9_isBow, Cond.initialized RX9, Cond.code yX9_isBow cX9_isBow 2 (some .boolean), Cond.methodLink RX9 55 yX9_in, Cond.static yX9_in, Cond.code yX9_in cX9_in 3 (some .boolean), Cond.methodLink RX9 74 yX9_bowPlace, Cond.static yX9_bowPlace, Cond.code yX9_bowPlace cX9_bowPlace 2 (some .int), Cond.methodLink RX9 77 yX9_soundsAt, Cond.instanceMethod yX9_soundsAt, Cond.selects RX9 yX9_soundsAt yX9_soundsAt, Cond.code yX9_soundsAt cX9_soundsAt 3 (some .int), Cond.methodLink RX9 70 yX9_canSound, Cond.instanceMethod yX9_canSound, Cond.selects RX9 yX9_canSound yX9_canSound, Cond.code yX9_canSound cX9_canSound 3 (some .boolean), Cond.fieldLink RX9 22 "BowedPlateModel" "s" "[I", Cond.methodLink RX9 66 yX9_isHeld, Cond.instanceMethod yX9_isHeld, Cond.selects RX9 yX9_isHeld yX9_isHeld, Cond.code yX9_isHeld cX9_isHeld 4 (some .boolean), Cond.methodLink RX9 63 yX9_swingAt]
def wsX9_sounds_r2 : List Cond := [Cond.instanceMethod yX9_swingAt, Cond.selects RX9 yX9_swingAt yX9_swingAt, Cond.code yX9_swingAt cX9_swingAt 3 (some .int), Cond.fieldLink RX9 19 "BowedPlateModel" "swings" "[I"]
def wsX9_sounds : List Cond := .code yX9_sounds cX9_sounds 3 (some .int) :: ((wsX9_sounds_r1 ++ wsX9_sounds_r2) ++ wsX90)
def wsX9_why_r1 : List Cond := [Cond.fieldLink RX9 22 "BowedPlateModel" "s" "[I", Cond.methodLink RX9 142 yX9_isWay, Cond.static yX9_isWay, Cond.initialized RX9, Cond.code yX9_isWay cX9_isWay 1 (some .boolean), Cond.methodLink RX9 55 yX9_in, Cond.static yX9_in, Cond.code yX9_in cX9_in 3 (some .boolean), Cond.methodLink RX9 99 yX9_isBow, Cond.static yX9_isBow, Cond.code yX9_isBow cX9_isBow 2 (some .boolean), Cond.methodLink RX9 74 yX9_bowPlace, Cond.static yX9_bowPlace, Cond.code yX9_bowPlace cX9_bowPlace 2 (some .int), Cond.methodLink RX9 66 yX9_isHeld, Cond.instanceMethod yX9_isHeld, Cond.selects RX9 yX9_isHeld yX9_isHeld, Cond.code yX9_isHeld cX9_isHeld 4 (some .boolean), Cond.methodLink RX9 63 yX9_swingAt, Cond.instanceMethod yX9_swingAt, Cond.selects RX9 yX9_swingAt yX9_swingAt, Cond.code yX9_swingAt cX9_swingAt 3 (some .int), Cond.fieldLink RX9 19 "BowedPlateModel" "swings" "[I", Cond.methodLink RX9 77 yX9_soundsAt]
def wsX9_why_r2 : List Cond := [Cond.instanceMethod yX9_soundsAt, Cond.selects RX9 yX9_soundsAt yX9_soundsAt, Cond.code yX9_soundsAt cX9_soundsAt 3 (some .int), Cond.methodLink RX9 70 yX9_canSound, Cond.instanceMethod yX9_canSound, Cond.selects RX9 yX9_canSound yX9_canSound, Cond.code yX9_canSound cX9_canSound 3 (some .boolean)]
def wsX9_why : List Cond := .code yX9_why cX9_why 5 (some .int) :: ((wsX9_why_r1 ++ wsX9_why_r2) ++ wsX90)
def wsX9_possible_r1 : List Cond := [Cond.methodLink RX9 154 yX9_isPossible, Cond.instanceMethod yX9_isPossible, Cond.selects RX9 yX9_isPossible yX9_isPossible, Cond.initialized RX9, Cond.code yX9_isPossible cX9_isPossible 4 (some .boolean), Cond.methodLink RX9 74 yX9_bowPlace, Cond.static yX9_bowPlace, Cond.code yX9_bowPlace cX9_bowPlace 2 (some .int), Cond.methodLink RX9 77 yX9_soundsAt, Cond.instanceMethod yX9_soundsAt, Cond.selects RX9 yX9_soundsAt yX9_soundsAt, Cond.code yX9_soundsAt cX9_soundsAt 3 (some .int), Cond.methodLink RX9 70 yX9_canSound, Cond.instanceMethod yX9_canSound, Cond.selects RX9 yX9_canSound yX9_canSound, Cond.code yX9_canSound cX9_canSound 3 (some .boolean), Cond.fieldLink RX9 22 "BowedPlateModel" "s" "[I", Cond.methodLink RX9 66 yX9_isHeld, Cond.instanceMethod yX9_isHeld, Cond.selects RX9 yX9_isHeld yX9_isHeld, Cond.code yX9_isHeld cX9_isHeld 4 (some .boolean), Cond.methodLink RX9 63 yX9_swingAt, Cond.instanceMethod yX9_swingAt, Cond.selects RX9 yX9_swingAt yX9_swingAt]
def wsX9_possible_r2 : List Cond := [Cond.code yX9_swingAt cX9_swingAt 3 (some .int), Cond.fieldLink RX9 19 "BowedPlateModel" "swings" "[I"]
def wsX9_possible : List Cond := .code yX9_possible cX9_possible 4 (some .int) :: ((wsX9_possible_r1 ++ wsX9_possible_r2) ++ wsX90)
def wsX9_waiting_r1 : List Cond := [Cond.fieldLink RX9 22 "BowedPlateModel" "s" "[I", Cond.methodLink RX9 55 yX9_in, Cond.static yX9_in, Cond.initialized RX9, Cond.code yX9_in cX9_in 3 (some .boolean), Cond.methodLink RX9 74 yX9_bowPlace, Cond.static yX9_bowPlace, Cond.code yX9_bowPlace cX9_bowPlace 2 (some .int), Cond.methodLink RX9 77 yX9_soundsAt, Cond.instanceMethod yX9_soundsAt, Cond.selects RX9 yX9_soundsAt yX9_soundsAt, Cond.code yX9_soundsAt cX9_soundsAt 3 (some .int), Cond.methodLink RX9 70 yX9_canSound, Cond.instanceMethod yX9_canSound, Cond.selects RX9 yX9_canSound yX9_canSound, Cond.code yX9_canSound cX9_canSound 3 (some .boolean), Cond.methodLink RX9 66 yX9_isHeld, Cond.instanceMethod yX9_isHeld, Cond.selects RX9 yX9_isHeld yX9_isHeld, Cond.code yX9_isHeld cX9_isHeld 4 (some .boolean), Cond.methodLink RX9 63 yX9_swingAt, Cond.instanceMethod yX9_swingAt, Cond.selects RX9 yX9_swingAt yX9_swingAt, Cond.code yX9_swingAt cX9_swingAt 3 (some .int)]
def wsX9_waiting_r2 : List Cond := [Cond.fieldLink RX9 19 "BowedPlateModel" "swings" "[I"]
def wsX9_waiting : List Cond := .code yX9_waiting cX9_waiting 4 (some .int) :: ((wsX9_waiting_r1 ++ wsX9_waiting_r2) ++ wsX90)
def wsX9_sand : List Cond := .code yX9_sand cX9_sand 5 (some .int) :: ([.fieldLink RX9 22 "BowedPlateModel" "s" "[I", .methodLink RX9 55 yX9_in, .static yX9_in, .initialized RX9, .code yX9_in cX9_in 3 (some .boolean)] ++ wsX90)
def wsX9_possibles_r1 : List Cond := [Cond.methodLink RX9 154 yX9_isPossible, Cond.instanceMethod yX9_isPossible, Cond.selects RX9 yX9_isPossible yX9_isPossible, Cond.initialized RX9, Cond.code yX9_isPossible cX9_isPossible 4 (some .boolean), Cond.methodLink RX9 74 yX9_bowPlace, Cond.static yX9_bowPlace, Cond.code yX9_bowPlace cX9_bowPlace 2 (some .int), Cond.methodLink RX9 77 yX9_soundsAt, Cond.instanceMethod yX9_soundsAt, Cond.selects RX9 yX9_soundsAt yX9_soundsAt, Cond.code yX9_soundsAt cX9_soundsAt 3 (some .int), Cond.methodLink RX9 70 yX9_canSound, Cond.instanceMethod yX9_canSound, Cond.selects RX9 yX9_canSound yX9_canSound, Cond.code yX9_canSound cX9_canSound 3 (some .boolean), Cond.fieldLink RX9 22 "BowedPlateModel" "s" "[I", Cond.methodLink RX9 66 yX9_isHeld, Cond.instanceMethod yX9_isHeld, Cond.selects RX9 yX9_isHeld yX9_isHeld, Cond.code yX9_isHeld cX9_isHeld 4 (some .boolean), Cond.methodLink RX9 63 yX9_swingAt, Cond.instanceMethod yX9_swingAt, Cond.selects RX9 yX9_swingAt yX9_swingAt]
def wsX9_possibles_r2 : List Cond := [Cond.code yX9_swingAt cX9_swingAt 3 (some .int), Cond.fieldLink RX9 19 "BowedPlateModel" "swings" "[I"]
def wsX9_possibles : List Cond := .code yX9_possibles cX9_possibles 3 (some .int) :: ((wsX9_possibles_r1 ++ wsX9_possibles_r2) ++ wsX90)
def wsX9_mostGrains : List Cond := .code yX9_mostGrains cX9_mostGrains 3 (some .int) :: ([.fieldLink RX9 22 "BowedPlateModel" "s" "[I"] ++ wsX90)
def wsX9_count_r1 : List Cond := [Cond.fieldLink RX9 22 "BowedPlateModel" "s" "[I", Cond.fieldLink RX9 59 "BowedPlateModel" "known" "I", Cond.fieldLink RX9 113 "BowedPlateModel" "typed" "I", Cond.methodLink RX9 92 yX9_allGrains, Cond.instanceMethod yX9_allGrains, Cond.selects RX9 yX9_allGrains yX9_allGrains, Cond.initialized RX9, Cond.code yX9_allGrains cX9_allGrains 3 (some .int), Cond.methodLink RX9 157 yX9_possibles, Cond.instanceMethod yX9_possibles, Cond.selects RX9 yX9_possibles yX9_possibles, Cond.code yX9_possibles cX9_possibles 3 (some .int), Cond.methodLink RX9 154 yX9_isPossible, Cond.instanceMethod yX9_isPossible, Cond.selects RX9 yX9_isPossible yX9_isPossible, Cond.code yX9_isPossible cX9_isPossible 4 (some .boolean), Cond.methodLink RX9 74 yX9_bowPlace, Cond.static yX9_bowPlace, Cond.code yX9_bowPlace cX9_bowPlace 2 (some .int), Cond.methodLink RX9 77 yX9_soundsAt, Cond.instanceMethod yX9_soundsAt, Cond.selects RX9 yX9_soundsAt yX9_soundsAt, Cond.code yX9_soundsAt cX9_soundsAt 3 (some .int), Cond.methodLink RX9 70 yX9_canSound]
def wsX9_count_r2 : List Cond := [Cond.instanceMethod yX9_canSound, Cond.selects RX9 yX9_canSound yX9_canSound, Cond.code yX9_canSound cX9_canSound 3 (some .boolean), Cond.methodLink RX9 66 yX9_isHeld, Cond.instanceMethod yX9_isHeld, Cond.selects RX9 yX9_isHeld yX9_isHeld, Cond.code yX9_isHeld cX9_isHeld 4 (some .boolean), Cond.methodLink RX9 63 yX9_swingAt, Cond.instanceMethod yX9_swingAt, Cond.selects RX9 yX9_swingAt yX9_swingAt, Cond.code yX9_swingAt cX9_swingAt 3 (some .int), Cond.fieldLink RX9 19 "BowedPlateModel" "swings" "[I", Cond.methodLink RX9 160 yX9_mostGrains, Cond.instanceMethod yX9_mostGrains, Cond.selects RX9 yX9_mostGrains yX9_mostGrains, Cond.code yX9_mostGrains cX9_mostGrains 3 (some .int)]
def wsX9_count : List Cond := .code yX9_count cX9_count 2 (some .int) :: ((wsX9_count_r1 ++ wsX9_count_r2) ++ wsX90)
def wsX9_clampAt : List Cond := .code yX9_clampAt cX9_clampAt 3 (some .int) :: ([.fieldLink RX9 22 "BowedPlateModel" "s" "[I", .methodLink RX9 55 yX9_in, .static yX9_in, .initialized RX9, .code yX9_in cX9_in 3 (some .boolean)] ++ wsX90)
def wsJ9_abs_0f7a4 : List Cond := .code yJ9_abs_0f7a4 cJ9_abs_0f7a4 1 (some .int) :: ([])
def wsJ9_max_7cf53 : List Cond := .code yJ9_max_7cf53 cJ9_max_7cf53 2 (some .int) :: ([])
def wsJ9_min_7cf53 : List Cond := .code yJ9_min_7cf53 cJ9_min_7cf53 2 (some .int) :: ([])
def wsL_law_r1 : List Cond := [Cond.classLink RL 7 RX8, Cond.instantiable RX8 9, Cond.initialized RX8, Cond.classLink RL 10 RX9, Cond.instantiable RX9 16, Cond.initialized RX9, Cond.methodLink RL 9 yX8_init, Cond.instanceMethod yX8_init, Cond.code yX8_init cX8_init 1 none, Cond.methodLink RX8 3 objectInit, Cond.instanceMethod objectInit, Cond.code objectInit ⟨#[0xb1]⟩ 1 none, Cond.classLink RX8 9 RX7, Cond.instantiable RX7 5, Cond.initialized RX7, Cond.fieldLink RX8 12 "BowedPlate" "ways" "LBowedPlate$Ways;", Cond.classLink RX8 16 RX5, Cond.instantiable RX5 12, Cond.initialized RX5, Cond.fieldLink RX8 19 "BowedPlate" "now" "LBowedPlate$State;", Cond.classLink RX8 23 RX0, Cond.instantiable RX0 5, Cond.initialized RX0, Cond.fieldLink RX8 28 "BowedPlate" "choice" "LBowedPlate$Choice;"]
def wsL_law_r2 : List Cond := [Cond.classLink RX8 32 RX1, Cond.instantiable RX1 5, Cond.initialized RX1, Cond.fieldLink RX8 35 "BowedPlate" "figure" "LBowedPlate$Figure;", Cond.classLink RX8 39 RX3, Cond.instantiable RX3 5, Cond.initialized RX3, Cond.fieldLink RX8 42 "BowedPlate" "mover" "LBowedPlate$Mover;", Cond.classLink RX8 46 RX6, Cond.instantiable RX6 4, Cond.initialized RX6, Cond.fieldLink RX8 49 "BowedPlate" "text" "LBowedPlate$Text;", Cond.classLink RX8 53 RX2, Cond.instantiable RX2 3, Cond.initialized RX2, Cond.fieldLink RX8 56 "BowedPlate" "history" "LBowedPlate$History;", Cond.fieldLink RX8 60 "BowedPlate" "snapshot" "LBowedPlate$State;", Cond.fieldLink RX8 63 "BowedPlate" "hasSnapshot" "Z", Cond.methodLink RX8 11 yX7_init, Cond.instanceMethod yX7_init, Cond.code yX7_init cX7_init 3 none, Cond.methodLink RX7 3 objectInit, Cond.arrayClass .int, Cond.fieldLink RX7 9 "BowedPlate$Ways" "lesser" "[I"]
def wsL_law_r3 : List Cond := [Cond.fieldLink RX7 15 "BowedPlate$Ways" "greater" "[I", Cond.fieldLink RX7 18 "BowedPlate$Ways" "sign" "[I", Cond.fieldLink RX7 21 "BowedPlate$Ways" "heights" "[I", Cond.fieldLink RX7 24 "BowedPlate$Ways" "listed" "I", Cond.methodLink RX7 28 yX7_waveHeight, Cond.static yX7_waveHeight, Cond.code yX7_waveHeight cX7_waveHeight 3 (some .int), Cond.methodLink RX7 32 yX7_listWaysOf, Cond.instanceMethod yX7_listWaysOf, Cond.selects RX7 yX7_listWaysOf yX7_listWaysOf, Cond.code yX7_listWaysOf cX7_listWaysOf 5 none, Cond.methodLink RX8 18 yX5_init, Cond.instanceMethod yX5_init, Cond.code yX5_init cX5_init 1 none, Cond.methodLink RX5 3 objectInit, Cond.fieldLink RX5 9 "BowedPlate$State" "grains" "[I", Cond.fieldLink RX5 15 "BowedPlate$State" "clampColumns" "[I", Cond.fieldLink RX5 18 "BowedPlate$State" "clampRows" "[I", Cond.fieldLink RX5 21 "BowedPlate$State" "clamps" "I", Cond.fieldLink RX5 25 "BowedPlate$State" "settings" "[I", Cond.classLink RX5 28 RX4, Cond.instantiable RX4 5, Cond.initialized RX4, Cond.fieldLink RX5 33 "BowedPlate$State" "piece" "LBowedPlate$Piece;"]
def wsL_law_r4 : List Cond := [Cond.fieldLink RX5 37 "BowedPlate$State" "lastWay" "I", Cond.fieldLink RX5 40 "BowedPlate$State" "strewn" "I", Cond.fieldLink RX5 43 "BowedPlate$State" "swept" "I", Cond.fieldLink RX5 46 "BowedPlate$State" "fallen" "I", Cond.fieldLink RX5 49 "BowedPlate$State" "strokes" "I", Cond.fieldLink RX5 52 "BowedPlate$State" "mutes" "I", Cond.methodLink RX5 61 arraycopyName, Cond.native arraycopyName, Cond.static arraycopyName, Cond.initialized "java/lang/System", Cond.methodLink RX5 30 yX4_init, Cond.instanceMethod yX4_init, Cond.code yX4_init cX4_init 2 none, Cond.methodLink RX4 1 objectInit, Cond.fieldLink RX4 7 "BowedPlate$Piece" "size" "I", Cond.methodLink RX4 13 Lib.Math.max.name, Cond.static Lib.Math.max.name, Cond.initialized "java/lang/Math", Cond.code Lib.Math.max.name Lib.Math.max.code 2 (some .int), Cond.fieldLink RX4 19 "BowedPlate$Piece" "limit" "I", Cond.fieldLink RX4 22 "BowedPlate$Piece" "sides" "[I", Cond.fieldLink RX4 26 "BowedPlate$Piece" "alongs" "[I", Cond.fieldLink RX4 29 "BowedPlate$Piece" "strokes" "[I", Cond.methodLink RX5 55 yX5_coverWith]
def wsL_law_r5 : List Cond := [Cond.instanceMethod yX5_coverWith, Cond.selects RX5 yX5_coverWith yX5_coverWith, Cond.code yX5_coverWith cX5_coverWith 3 none, Cond.methodLink RX8 25 yX0_init, Cond.instanceMethod yX0_init, Cond.code yX0_init cX0_init 3 none, Cond.methodLink RX0 3 objectInit, Cond.fieldLink RX0 9 "BowedPlate$Choice" "possibleWay" "[I", Cond.fieldLink RX0 15 "BowedPlate$Choice" "possibleWays" "I", Cond.arrayClass .boolean, Cond.fieldLink RX0 19 "BowedPlate$Choice" "isTaken" "[Z", Cond.fieldLink RX0 23 "BowedPlate$Choice" "ways" "LBowedPlate$Ways;", Cond.fieldLink RX0 27 "BowedPlate$Choice" "now" "LBowedPlate$State;", Cond.methodLink RX8 34 yX1_init, Cond.instanceMethod yX1_init, Cond.code yX1_init cX1_init 3 none, Cond.methodLink RX1 3 objectInit, Cond.fieldLink RX1 9 "BowedPlate$Figure" "isOpen" "[Z", Cond.fieldLink RX1 15 "BowedPlate$Figure" "reached" "[I", Cond.fieldLink RX1 19 "BowedPlate$Figure" "reaches" "I", Cond.fieldLink RX1 23 "BowedPlate$Figure" "ways" "LBowedPlate$Ways;", Cond.fieldLink RX1 27 "BowedPlate$Figure" "now" "LBowedPlate$State;", Cond.methodLink RX8 41 yX3_init, Cond.instanceMethod yX3_init]
def wsL_law_r6 : List Cond := [Cond.code yX3_init cX3_init 3 none, Cond.methodLink RX3 3 objectInit, Cond.fieldLink RX3 9 "BowedPlate$Mover" "swings" "[I", Cond.fieldLink RX3 15 "BowedPlate$Mover" "targets" "[I", Cond.fieldLink RX3 18 "BowedPlate$Mover" "arrivals" "[I", Cond.fieldLink RX3 21 "BowedPlate$Mover" "ways" "LBowedPlate$Ways;", Cond.fieldLink RX3 25 "BowedPlate$Mover" "now" "LBowedPlate$State;", Cond.instanceMethod yX6_init, Cond.code yX6_init cX6_init 1 none, Cond.methodLink RX6 3 objectInit, Cond.arrayClass .char, Cond.fieldLink RX6 9 "BowedPlate$Text" "characters" "[C", Cond.fieldLink RX6 15 "BowedPlate$Text" "length" "I", Cond.classLink RX6 19 RX4, Cond.fieldLink RX6 24 "BowedPlate$Text" "piece" "LBowedPlate$Piece;", Cond.fieldLink RX6 28 "BowedPlate$Text" "cursor" "I", Cond.methodLink RX6 21 yX4_init, Cond.methodLink RX8 55 yX2_init, Cond.instanceMethod yX2_init, Cond.code yX2_init cX2_init 2 none, Cond.methodLink RX2 3 objectInit, Cond.classLink RX2 9 RX5, Cond.fieldLink RX2 11 "BowedPlate$History" "states" "[LBowedPlate$State;", Cond.fieldLink RX2 17 "BowedPlate$History" "oldest" "I"]
def wsL_law_r7 : List Cond := [Cond.fieldLink RX2 21 "BowedPlate$History" "held" "I", Cond.methodLink RX2 24 yX5_init, Cond.methodLink RL 12 yX9_init, Cond.instanceMethod yX9_init, Cond.code yX9_init cX9_init 2 none, Cond.methodLink RX9 1 objectInit, Cond.fieldLink RX9 7 "BowedPlateModel" "low" "[I", Cond.fieldLink RX9 13 "BowedPlateModel" "high" "[I", Cond.fieldLink RX9 16 "BowedPlateModel" "minus" "[I", Cond.fieldLink RX9 19 "BowedPlateModel" "swings" "[I", Cond.fieldLink RX9 22 "BowedPlateModel" "s" "[I", Cond.fieldLink RX9 25 "BowedPlateModel" "before" "[I", Cond.fieldLink RX9 28 "BowedPlateModel" "kept" "[I", Cond.fieldLink RX9 31 "BowedPlateModel" "text" "[I", Cond.fieldLink RX9 34 "BowedPlateModel" "more" "[I", Cond.fieldLink RX9 37 "BowedPlateModel" "isMet" "[Z", Cond.fieldLink RX9 41 "BowedPlateModel" "row" "[I", Cond.methodLink RX9 44 yX9_findWays, Cond.instanceMethod yX9_findWays, Cond.selects RX9 yX9_findWays yX9_findWays, Cond.code yX9_findWays cX9_findWays 8 none, Cond.methodLink RX9 47 yX9_wave, Cond.static yX9_wave, Cond.code yX9_wave cX9_wave 3 (some .int)]
def wsL_law_r8 : List Cond := [Cond.methodLink RX9 51 yX9_size, Cond.static yX9_size, Cond.code yX9_size cX9_size 1 (some .int), Cond.methodLink RL 13 yX8_strew, Cond.instanceMethod yX8_strew, Cond.selects RX8 yX8_strew yX8_strew, Cond.code yX8_strew cX8_strew 5 (some .int), Cond.methodLink RX8 67 yX8_isPlace, Cond.static yX8_isPlace, Cond.code yX8_isPlace cX8_isPlace 2 (some .boolean), Cond.methodLink RX8 71 yX2_record, Cond.instanceMethod yX2_record, Cond.selects RX2 yX2_record yX2_record, Cond.code yX2_record cX2_record 3 none, Cond.methodLink RX2 25 yX5_copyFrom, Cond.instanceMethod yX5_copyFrom, Cond.selects RX5 yX5_copyFrom yX5_copyFrom, Cond.code yX5_copyFrom cX5_copyFrom 2 none, Cond.methodLink RX5 67 yX4_copyFrom, Cond.instanceMethod yX4_copyFrom, Cond.selects RX4 yX4_copyFrom yX4_copyFrom, Cond.code yX4_copyFrom cX4_copyFrom 2 none, Cond.methodLink RX4 36 yX4_appendAll, Cond.instanceMethod yX4_appendAll]
def wsL_law_r9 : List Cond := [Cond.selects RX4 yX4_appendAll yX4_appendAll, Cond.code yX4_appendAll cX4_appendAll 3 none, Cond.methodLink RX4 32 yX4_append, Cond.instanceMethod yX4_append, Cond.selects RX4 yX4_append yX4_append, Cond.code yX4_append cX4_append 4 none, Cond.methodLink RX8 75 yX8_placeOf, Cond.static yX8_placeOf, Cond.code yX8_placeOf cX8_placeOf 2 (some .int), Cond.methodLink RL 17 yX9_strew, Cond.instanceMethod yX9_strew, Cond.selects RX9 yX9_strew yX9_strew, Cond.code yX9_strew cX9_strew 4 (some .int), Cond.methodLink RX9 80 yX9_isOn, Cond.static yX9_isOn, Cond.code yX9_isOn cX9_isOn 2 (some .boolean), Cond.methodLink RX9 55 yX9_in, Cond.static yX9_in, Cond.code yX9_in cX9_in 3 (some .boolean), Cond.methodLink RX9 89 yX9_know, Cond.instanceMethod yX9_know, Cond.selects RX9 yX9_know yX9_know, Cond.code yX9_know cX9_know 2 none, Cond.fieldLink RX9 59 "BowedPlateModel" "known" "I"]
def wsL_law_r10 : List Cond := [Cond.methodLink RL 18 yX8_sweep, Cond.instanceMethod yX8_sweep, Cond.selects RX8 yX8_sweep yX8_sweep, Cond.code yX8_sweep cX8_sweep 3 (some .int), Cond.methodLink RX8 87 yX5_allGrains, Cond.instanceMethod yX5_allGrains, Cond.selects RX5 yX5_allGrains yX5_allGrains, Cond.code yX5_allGrains cX5_allGrains 3 (some .int), Cond.methodLink RX8 94 yX5_coverWith, Cond.methodLink RL 22 yX9_sweep, Cond.instanceMethod yX9_sweep, Cond.selects RX9 yX9_sweep yX9_sweep, Cond.code yX9_sweep cX9_sweep 4 (some .int), Cond.methodLink RX9 92 yX9_allGrains, Cond.instanceMethod yX9_allGrains, Cond.selects RX9 yX9_allGrains yX9_allGrains, Cond.code yX9_allGrains cX9_allGrains 3 (some .int), Cond.methodLink RL 23 yX8_clamp, Cond.instanceMethod yX8_clamp, Cond.selects RX8 yX8_clamp yX8_clamp, Cond.code yX8_clamp cX8_clamp 3 (some .int), Cond.methodLink RX8 101 yX5_clampOn, Cond.instanceMethod yX5_clampOn, Cond.selects RX5 yX5_clampOn yX5_clampOn]
def wsL_law_r11 : List Cond := [Cond.code yX5_clampOn cX5_clampOn 4 (some .int), Cond.methodLink RL 27 yX9_clamp, Cond.instanceMethod yX9_clamp, Cond.selects RX9 yX9_clamp yX9_clamp, Cond.code yX9_clamp cX9_clamp 3 (some .int), Cond.methodLink RX9 96 yX9_clampOn, Cond.instanceMethod yX9_clampOn, Cond.selects RX9 yX9_clampOn yX9_clampOn, Cond.code yX9_clampOn cX9_clampOn 3 (some .int), Cond.methodLink RL 28 yX8_unclamp, Cond.instanceMethod yX8_unclamp, Cond.selects RX8 yX8_unclamp yX8_unclamp, Cond.code yX8_unclamp cX8_unclamp 2 (some .int), Cond.methodLink RX8 110 yX8_isClamp, Cond.instanceMethod yX8_isClamp, Cond.selects RX8 yX8_isClamp yX8_isClamp, Cond.code yX8_isClamp cX8_isClamp 2 (some .boolean), Cond.methodLink RX8 114 yX5_dropClamp, Cond.instanceMethod yX5_dropClamp, Cond.selects RX5 yX5_dropClamp yX5_dropClamp, Cond.code yX5_dropClamp cX5_dropClamp 3 none, Cond.methodLink RL 31 yX9_unclamp, Cond.instanceMethod yX9_unclamp, Cond.selects RX9 yX9_unclamp yX9_unclamp]
def wsL_law_r12 : List Cond := [Cond.code yX9_unclamp cX9_unclamp 3 (some .int), Cond.methodLink RL 32 yX8_set, Cond.instanceMethod yX8_set, Cond.selects RX8 yX8_set yX8_set, Cond.code yX8_set cX8_set 4 (some .int), Cond.fieldLink RX8 117 "BowedPlate" "LEAST_SETTING" "[I", Cond.fieldLink RX8 120 "BowedPlate" "MOST_SETTING" "[I", Cond.methodLink RL 35 yX9_set, Cond.instanceMethod yX9_set, Cond.selects RX9 yX9_set yX9_set, Cond.code yX9_set cX9_set 6 (some .int), Cond.methodLink RL 36 yX8_bow, Cond.instanceMethod yX8_bow, Cond.selects RX8 yX8_bow yX8_bow, Cond.code yX8_bow cX8_bow 4 (some .int), Cond.methodLink RX8 126 yX8_isBow, Cond.static yX8_isBow, Cond.code yX8_isBow cX8_isBow 2 (some .boolean), Cond.methodLink RX8 256 yX8_isLine, Cond.static yX8_isLine, Cond.code yX8_isLine cX8_isLine 1 (some .boolean), Cond.methodLink RX8 138 yX4_append, Cond.methodLink RL 39 yX9_bow, Cond.instanceMethod yX9_bow]
def wsL_law_r13 : List Cond := [Cond.selects RX9 yX9_bow yX9_bow, Cond.code yX9_bow cX9_bow 4 (some .int), Cond.methodLink RX9 99 yX9_isBow, Cond.static yX9_isBow, Cond.code yX9_isBow cX9_isBow 2 (some .boolean), Cond.methodLink RX9 102 yX9_waits, Cond.instanceMethod yX9_waits, Cond.selects RX9 yX9_waits yX9_waits, Cond.code yX9_waits cX9_waits 5 (some .int), Cond.methodLink RL 40 yX8_bowAll, Cond.instanceMethod yX8_bowAll, Cond.selects RX8 yX8_bowAll yX8_bowAll, Cond.code yX8_bowAll cX8_bowAll 1 (some .int), Cond.methodLink RX8 142 yX6_read, Cond.instanceMethod yX6_read, Cond.selects RX6 yX6_read yX6_read, Cond.code yX6_read cX6_read 2 (some .boolean), Cond.methodLink RX6 34 yX6_readBowing, Cond.instanceMethod yX6_readBowing, Cond.selects RX6 yX6_readBowing yX6_readBowing, Cond.code yX6_readBowing cX6_readBowing 4 (some .boolean), Cond.methodLink RX6 38 yX6_next, Cond.instanceMethod yX6_next, Cond.selects RX6 yX6_next yX6_next]
def wsL_law_r14 : List Cond := [Cond.code yX6_next cX6_next 2 (some .int), Cond.methodLink RX6 42 yX6_sideOf, Cond.static yX6_sideOf, Cond.code yX6_sideOf cX6_sideOf 1 (some .int), Cond.methodLink RX6 46 yX6_readNumber, Cond.instanceMethod yX6_readNumber, Cond.selects RX6 yX6_readNumber yX6_readNumber, Cond.code yX6_readNumber cX6_readNumber 6 (some .int), Cond.methodLink RX6 54 yX6_digitOf, Cond.static yX6_digitOf, Cond.code yX6_digitOf cX6_digitOf 1 (some .int), Cond.methodLink RX6 50 yX4_append, Cond.methodLink RX8 146 yX6_fault, Cond.instanceMethod yX6_fault, Cond.selects RX6 yX6_fault yX6_fault, Cond.code yX6_fault cX6_fault 1 (some .int), Cond.methodLink RX8 150 yX4_appendAll, Cond.methodLink RL 44 yX9_bowAll, Cond.instanceMethod yX9_bowAll, Cond.selects RX9 yX9_bowAll yX9_bowAll, Cond.code yX9_bowAll cX9_bowAll 2 (some .int), Cond.fieldLink RX9 119 "BowedPlateModel" "isWrong" "Z", Cond.fieldLink RX9 116 "BowedPlateModel" "at" "I", Cond.methodLink RX9 129 yX9_go]
def wsL_law_r15 : List Cond := [Cond.instanceMethod yX9_go, Cond.selects RX9 yX9_go yX9_go, Cond.code yX9_go cX9_go 11 (some .int), Cond.fieldLink RX9 113 "BowedPlateModel" "typed" "I", Cond.methodLink RX9 126 yX9_number, Cond.instanceMethod yX9_number, Cond.selects RX9 yX9_number yX9_number, Cond.code yX9_number cX9_number 5 (some .int), Cond.methodLink RX9 123 yX9_sign, Cond.instanceMethod yX9_sign, Cond.selects RX9 yX9_sign yX9_sign, Cond.code yX9_sign cX9_sign 4 (some .int), Cond.methodLink RL 45 yX8_strike, Cond.instanceMethod yX8_strike, Cond.selects RX8 yX8_strike yX8_strike, Cond.code yX8_strike cX8_strike 2 (some .int), Cond.methodLink RX8 154 yX4_sizeAt, Cond.instanceMethod yX4_sizeAt, Cond.selects RX4 yX4_sizeAt yX4_sizeAt, Cond.code yX4_sizeAt cX4_sizeAt 4 (some .int), Cond.methodLink RX8 158 yX4_dropSide, Cond.instanceMethod yX4_dropSide, Cond.selects RX4 yX4_dropSide yX4_dropSide, Cond.code yX4_dropSide cX4_dropSide 4 (some .int)]
def wsL_law_r16 : List Cond := [Cond.methodLink RL 48 yX9_strike, Cond.instanceMethod yX9_strike, Cond.selects RX9 yX9_strike yX9_strike, Cond.code yX9_strike cX9_strike 4 (some .int), Cond.methodLink RX9 106 yX9_strikeAt, Cond.instanceMethod yX9_strikeAt, Cond.selects RX9 yX9_strikeAt yX9_strikeAt, Cond.code yX9_strikeAt cX9_strikeAt 3 none, Cond.methodLink RL 49 yX8_play, Cond.instanceMethod yX8_play, Cond.selects RX8 yX8_play yX8_play, Cond.code yX8_play cX8_play 5 (some .int), Cond.methodLink RX8 161 Lib.Math.min.name, Cond.static Lib.Math.min.name, Cond.code Lib.Math.min.name Lib.Math.min.code 2 (some .int), Cond.methodLink RX8 166 yX8_playBowing, Cond.instanceMethod yX8_playBowing, Cond.selects RX8 yX8_playBowing yX8_playBowing, Cond.code yX8_playBowing cX8_playBowing 4 (some .boolean), Cond.methodLink RX8 232 yX0_wayFor, Cond.instanceMethod yX0_wayFor, Cond.selects RX0 yX0_wayFor yX0_wayFor, Cond.code yX0_wayFor cX0_wayFor 4 (some .int), Cond.methodLink RX0 54 yX0_bowAllows]
def wsL_law_r17 : List Cond := [Cond.instanceMethod yX0_bowAllows, Cond.selects RX0 yX0_bowAllows yX0_bowAllows, Cond.code yX0_bowAllows cX0_bowAllows 4 (some .boolean), Cond.methodLink RX0 51 yX0_swingAtBow, Cond.instanceMethod yX0_swingAtBow, Cond.selects RX0 yX0_swingAtBow yX0_swingAtBow, Cond.code yX0_swingAtBow cX0_swingAtBow 4 (some .int), Cond.methodLink RX0 42 yX7_swingAt, Cond.instanceMethod yX7_swingAt, Cond.selects RX7 yX7_swingAt yX7_swingAt, Cond.code yX7_swingAt cX7_swingAt 8 (some .int), Cond.methodLink RX7 44 Lib.Math.abs.name, Cond.static Lib.Math.abs.name, Cond.code Lib.Math.abs.name Lib.Math.abs.code 1 (some .int), Cond.static yX8_isWay, Cond.code yX8_isWay cX8_isWay 1 (some .boolean), Cond.methodLink RX0 58 yX0_clampsAllow, Cond.instanceMethod yX0_clampsAllow, Cond.selects RX0 yX0_clampsAllow yX0_clampsAllow, Cond.code yX0_clampsAllow cX0_clampsAllow 4 (some .boolean), Cond.methodLink RX8 190 yX8_isWay, Cond.methodLink RX8 270 yX3_stroke, Cond.instanceMethod yX3_stroke, Cond.selects RX3 yX3_stroke yX3_stroke]
def wsL_law_r18 : List Cond := [Cond.code yX3_stroke cX3_stroke 4 none, Cond.static yX8_columnOf, Cond.code yX8_columnOf cX8_columnOf 1 (some .int), Cond.static yX8_rowOf, Cond.code yX8_rowOf cX8_rowOf 1 (some .int), Cond.methodLink RX3 36 yX7_swingAt, Cond.methodLink RX3 42 yX3_targetOf, Cond.instanceMethod yX3_targetOf, Cond.selects RX3 yX3_targetOf yX3_targetOf, Cond.code yX3_targetOf cX3_targetOf 4 (some .int), Cond.methodLink RX3 52 yX3_calmerOf, Cond.instanceMethod yX3_calmerOf, Cond.selects RX3 yX3_calmerOf yX3_calmerOf, Cond.code yX3_calmerOf cX3_calmerOf 4 (some .int), Cond.methodLink RX3 46 yX3_strokeOnce, Cond.instanceMethod yX3_strokeOnce, Cond.selects RX3 yX3_strokeOnce yX3_strokeOnce, Cond.code yX3_strokeOnce cX3_strokeOnce 2 none, Cond.methodLink RX3 67 yX3_shake, Cond.instanceMethod yX3_shake, Cond.selects RX3 yX3_shake yX3_shake, Cond.code yX3_shake cX3_shake 3 none, Cond.methodLink RX3 71 yX3_isAtEdge, Cond.static yX3_isAtEdge]
def wsL_law_r19 : List Cond := [Cond.code yX3_isAtEdge cX3_isAtEdge 3 (some .boolean), Cond.methodLink RX8 169 yX4_dropFirst, Cond.instanceMethod yX4_dropFirst, Cond.selects RX4 yX4_dropFirst yX4_dropFirst, Cond.code yX4_dropFirst cX4_dropFirst 4 none, Cond.methodLink RL 52 yX9_play, Cond.instanceMethod yX9_play, Cond.selects RX9 yX9_play yX9_play, Cond.code yX9_play cX9_play 7 (some .int), Cond.methodLink RX9 74 yX9_bowPlace, Cond.static yX9_bowPlace, Cond.code yX9_bowPlace cX9_bowPlace 2 (some .int), Cond.methodLink RX9 77 yX9_soundsAt, Cond.instanceMethod yX9_soundsAt, Cond.selects RX9 yX9_soundsAt yX9_soundsAt, Cond.code yX9_soundsAt cX9_soundsAt 3 (some .int), Cond.methodLink RX9 70 yX9_canSound, Cond.instanceMethod yX9_canSound, Cond.selects RX9 yX9_canSound yX9_canSound, Cond.code yX9_canSound cX9_canSound 3 (some .boolean), Cond.methodLink RX9 66 yX9_isHeld, Cond.instanceMethod yX9_isHeld, Cond.selects RX9 yX9_isHeld yX9_isHeld, Cond.code yX9_isHeld cX9_isHeld 4 (some .boolean)]
def wsL_law_r20 : List Cond := [Cond.methodLink RX9 63 yX9_swingAt, Cond.instanceMethod yX9_swingAt, Cond.selects RX9 yX9_swingAt yX9_swingAt, Cond.code yX9_swingAt cX9_swingAt 3 (some .int), Cond.methodLink RX9 110 yX9_stroke, Cond.instanceMethod yX9_stroke, Cond.selects RX9 yX9_stroke yX9_stroke, Cond.code yX9_stroke cX9_stroke 6 none, Cond.methodLink RX9 83 yX9_isEdge, Cond.static yX9_isEdge, Cond.code yX9_isEdge cX9_isEdge 3 (some .boolean), Cond.methodLink RX9 86 yX9_calmest, Cond.instanceMethod yX9_calmest, Cond.selects RX9 yX9_calmest yX9_calmest, Cond.code yX9_calmest cX9_calmest 9 (some .int), Cond.methodLink RL 53 yX8_type, Cond.instanceMethod yX8_type, Cond.selects RX8 yX8_type yX8_type, Cond.code yX8_type cX8_type 2 (some .int), Cond.methodLink RX8 175 yX6_append, Cond.instanceMethod yX6_append, Cond.selects RX6 yX6_append yX6_append, Cond.code yX6_append cX6_append 2 none, Cond.methodLink RL 57 yX9_type]
def wsL_law_r21 : List Cond := [Cond.instanceMethod yX9_type, Cond.selects RX9 yX9_type yX9_type, Cond.code yX9_type cX9_type 2 (some .int), Cond.methodLink RL 58 yX8_clearText, Cond.instanceMethod yX8_clearText, Cond.selects RX8 yX8_clearText yX8_clearText, Cond.code yX8_clearText cX8_clearText 2 (some .int), Cond.methodLink RL 61 yX9_clearText, Cond.instanceMethod yX9_clearText, Cond.selects RX9 yX9_clearText yX9_clearText, Cond.code yX9_clearText cX9_clearText 2 (some .int), Cond.methodLink RL 62 yX8_undo, Cond.instanceMethod yX8_undo, Cond.selects RX8 yX8_undo yX8_undo, Cond.code yX8_undo cX8_undo 1 (some .int), Cond.methodLink RX8 181 yX2_takeLatest, Cond.instanceMethod yX2_takeLatest, Cond.selects RX2 yX2_takeLatest yX2_takeLatest, Cond.code yX2_takeLatest cX2_takeLatest 3 none, Cond.methodLink RL 65 yX9_undo, Cond.instanceMethod yX9_undo, Cond.selects RX9 yX9_undo yX9_undo, Cond.code yX9_undo cX9_undo 2 (some .int), Cond.methodLink RL 66 yX8_keep]
def wsL_law_r22 : List Cond := [Cond.instanceMethod yX8_keep, Cond.selects RX8 yX8_keep yX8_keep, Cond.code yX8_keep cX8_keep 1 (some .int), Cond.methodLink RX8 184 yX5_copyFrom, Cond.methodLink RL 69 yX9_keep, Cond.instanceMethod yX9_keep, Cond.selects RX9 yX9_keep yX9_keep, Cond.code yX9_keep cX9_keep 2 (some .int), Cond.fieldLink RX9 133 "BowedPlateModel" "isKept" "Z", Cond.methodLink RL 70 yX8_restore, Cond.instanceMethod yX8_restore, Cond.selects RX8 yX8_restore yX8_restore, Cond.code yX8_restore cX8_restore 1 (some .int), Cond.methodLink RL 73 yX9_restore, Cond.instanceMethod yX9_restore, Cond.selects RX9 yX9_restore yX9_restore, Cond.code yX9_restore cX9_restore 2 (some .int), Cond.methodLink RL 74 yX8_place, Cond.instanceMethod yX8_place, Cond.selects RX8 yX8_place yX8_place, Cond.code yX8_place cX8_place 4 (some .int), Cond.methodLink RX8 193 yX7_swingAt, Cond.methodLink RX8 197 yX1_isStill, Cond.instanceMethod yX1_isStill]
def wsL_law_r23 : List Cond := [Cond.selects RX1 yX1_isStill yX1_isStill, Cond.code yX1_isStill cX1_isStill 4 (some .boolean), Cond.methodLink RX1 31 yX7_swingAt, Cond.methodLink RX8 201 yX8_asNumber, Cond.static yX8_asNumber, Cond.code yX8_asNumber cX8_asNumber 1 (some .int), Cond.methodLink RX8 205 yX8_orNone, Cond.static yX8_orNone, Cond.code yX8_orNone cX8_orNone 1 (some .int), Cond.methodLink RL 77 yX9_place, Cond.instanceMethod yX9_place, Cond.selects RX9 yX9_place yX9_place, Cond.code yX9_place cX9_place 5 (some .int), Cond.methodLink RX9 136 yX9_isStill, Cond.instanceMethod yX9_isStill, Cond.selects RX9 yX9_isStill yX9_isStill, Cond.code yX9_isStill cX9_isStill 3 (some .boolean), Cond.methodLink RL 78 yX8_way, Cond.instanceMethod yX8_way, Cond.selects RX8 yX8_way yX8_way, Cond.code yX8_way cX8_way 3 (some .int), Cond.methodLink RX8 217 yX7_noteOf, Cond.instanceMethod yX7_noteOf, Cond.selects RX7 yX7_noteOf yX7_noteOf]
def wsL_law_r24 : List Cond := [Cond.code yX7_noteOf cX7_noteOf 2 (some .int), Cond.methodLink RX8 220 yX1_stillPlaces, Cond.instanceMethod yX1_stillPlaces, Cond.selects RX1 yX1_stillPlaces yX1_stillPlaces, Cond.code yX1_stillPlaces cX1_stillPlaces 4 (some .int), Cond.methodLink RX1 49 yX1_isStill, Cond.methodLink RX8 223 yX1_lines, Cond.instanceMethod yX1_lines, Cond.selects RX1 yX1_lines yX1_lines, Cond.code yX1_lines cX1_lines 4 (some .int), Cond.methodLink RX1 56 yX1_closeLine, Cond.instanceMethod yX1_closeLine, Cond.selects RX1 yX1_closeLine yX1_closeLine, Cond.code yX1_closeLine cX1_closeLine 5 none, Cond.methodLink RX1 60 yX1_reach, Cond.instanceMethod yX1_reach, Cond.selects RX1 yX1_reach yX1_reach, Cond.code yX1_reach cX1_reach 3 none, Cond.methodLink RX8 226 yX1_grainsOnLines, Cond.instanceMethod yX1_grainsOnLines, Cond.selects RX1 yX1_grainsOnLines yX1_grainsOnLines, Cond.code yX1_grainsOnLines cX1_grainsOnLines 4 (some .int), Cond.methodLink RX8 229 yX0_clampsAllow, Cond.methodLink RL 81 yX9_way]
def wsL_law_r25 : List Cond := [Cond.instanceMethod yX9_way, Cond.selects RX9 yX9_way yX9_way, Cond.code yX9_way cX9_way 3 (some .int), Cond.methodLink RX9 142 yX9_isWay, Cond.static yX9_isWay, Cond.code yX9_isWay cX9_isWay 1 (some .boolean), Cond.methodLink RX9 145 yX9_noteOf, Cond.instanceMethod yX9_noteOf, Cond.selects RX9 yX9_noteOf yX9_noteOf, Cond.code yX9_noteOf cX9_noteOf 2 (some .int), Cond.methodLink RX9 148 yX9_still, Cond.instanceMethod yX9_still, Cond.selects RX9 yX9_still yX9_still, Cond.code yX9_still cX9_still 5 (some .int), Cond.methodLink RX9 151 yX9_lines, Cond.instanceMethod yX9_lines, Cond.selects RX9 yX9_lines yX9_lines, Cond.code yX9_lines cX9_lines 4 (some .int), Cond.methodLink RX9 139 yX9_meet, Cond.instanceMethod yX9_meet, Cond.selects RX9 yX9_meet yX9_meet, Cond.code yX9_meet cX9_meet 7 none, Cond.methodLink RL 82 yX8_swing, Cond.instanceMethod yX8_swing]
def wsL_law_r26 : List Cond := [Cond.selects RX8 yX8_swing yX8_swing, Cond.code yX8_swing cX8_swing 4 (some .int), Cond.methodLink RL 85 yX9_swing, Cond.instanceMethod yX9_swing, Cond.selects RX9 yX9_swing yX9_swing, Cond.code yX9_swing cX9_swing 4 (some .int), Cond.methodLink RL 86 yX8_sounds, Cond.instanceMethod yX8_sounds, Cond.selects RX8 yX8_sounds yX8_sounds, Cond.code yX8_sounds cX8_sounds 3 (some .int), Cond.methodLink RL 89 yX9_sounds, Cond.instanceMethod yX9_sounds, Cond.selects RX9 yX9_sounds yX9_sounds, Cond.code yX9_sounds cX9_sounds 3 (some .int), Cond.methodLink RL 90 yX8_why, Cond.instanceMethod yX8_why, Cond.selects RX8 yX8_why yX8_why, Cond.code yX8_why cX8_why 4 (some .int), Cond.methodLink RX8 235 yX0_reasonOf, Cond.instanceMethod yX0_reasonOf, Cond.selects RX0 yX0_reasonOf yX0_reasonOf, Cond.code yX0_reasonOf cX0_reasonOf 4 (some .int), Cond.methodLink RX0 62 yX0_wayFor, Cond.methodLink RL 93 yX9_why]
def wsL_law_r27 : List Cond := [Cond.instanceMethod yX9_why, Cond.selects RX9 yX9_why yX9_why, Cond.code yX9_why cX9_why 5 (some .int), Cond.methodLink RL 94 yX8_possible, Cond.instanceMethod yX8_possible, Cond.selects RX8 yX8_possible yX8_possible, Cond.code yX8_possible cX8_possible 2 (some .int), Cond.methodLink RX8 238 yX0_findPossible, Cond.instanceMethod yX0_findPossible, Cond.selects RX0 yX0_findPossible yX0_findPossible, Cond.code yX0_findPossible cX0_findPossible 2 none, Cond.methodLink RX0 66 yX0_takesBow, Cond.instanceMethod yX0_takesBow, Cond.selects RX0 yX0_takesBow yX0_takesBow, Cond.code yX0_takesBow cX0_takesBow 4 (some .boolean), Cond.methodLink RL 97 yX9_possible, Cond.instanceMethod yX9_possible, Cond.selects RX9 yX9_possible yX9_possible, Cond.code yX9_possible cX9_possible 4 (some .int), Cond.methodLink RX9 154 yX9_isPossible, Cond.instanceMethod yX9_isPossible, Cond.selects RX9 yX9_isPossible yX9_isPossible, Cond.code yX9_isPossible cX9_isPossible 4 (some .boolean), Cond.methodLink RL 98 yX8_waiting]
def wsL_law_r28 : List Cond := [Cond.instanceMethod yX8_waiting, Cond.selects RX8 yX8_waiting yX8_waiting, Cond.code yX8_waiting cX8_waiting 3 (some .int), Cond.methodLink RL 101 yX9_waiting, Cond.instanceMethod yX9_waiting, Cond.selects RX9 yX9_waiting yX9_waiting, Cond.code yX9_waiting cX9_waiting 4 (some .int), Cond.methodLink RL 102 yX8_sand, Cond.instanceMethod yX8_sand, Cond.selects RX8 yX8_sand yX8_sand, Cond.code yX8_sand cX8_sand 5 (some .int), Cond.methodLink RL 106 yX9_sand, Cond.instanceMethod yX9_sand, Cond.selects RX9 yX9_sand yX9_sand, Cond.code yX9_sand cX9_sand 5 (some .int), Cond.methodLink RL 107 yX8_count, Cond.instanceMethod yX8_count, Cond.selects RX8 yX8_count yX8_count, Cond.code yX8_count cX8_count 2 (some .int), Cond.methodLink RX8 267 yX5_mostGrains, Cond.instanceMethod yX5_mostGrains, Cond.selects RX5 yX5_mostGrains yX5_mostGrains, Cond.code yX5_mostGrains cX5_mostGrains 3 (some .int), Cond.methodLink RX5 71 Lib.Math.max.name]
def wsL_law_r29 : List Cond := [Cond.methodLink RL 110 yX9_count, Cond.instanceMethod yX9_count, Cond.selects RX9 yX9_count yX9_count, Cond.code yX9_count cX9_count 2 (some .int), Cond.methodLink RX9 157 yX9_possibles, Cond.instanceMethod yX9_possibles, Cond.selects RX9 yX9_possibles yX9_possibles, Cond.code yX9_possibles cX9_possibles 3 (some .int), Cond.methodLink RX9 160 yX9_mostGrains, Cond.instanceMethod yX9_mostGrains, Cond.selects RX9 yX9_mostGrains yX9_mostGrains, Cond.code yX9_mostGrains cX9_mostGrains 3 (some .int), Cond.methodLink RL 111 yX8_clampAt, Cond.instanceMethod yX8_clampAt, Cond.selects RX8 yX8_clampAt yX8_clampAt, Cond.code yX8_clampAt cX8_clampAt 3 (some .int), Cond.methodLink RL 115 yX9_clampAt, Cond.instanceMethod yX9_clampAt, Cond.selects RX9 yX9_clampAt yX9_clampAt, Cond.code yX9_clampAt cX9_clampAt 3 (some .int)]
def wsL_law : List Cond := (wsL_law_r1 ++ (wsL_law_r2 ++ (wsL_law_r3 ++ (wsL_law_r4 ++ (wsL_law_r5 ++ (wsL_law_r6 ++ (wsL_law_r7 ++ (wsL_law_r8 ++ (wsL_law_r9 ++ (wsL_law_r10 ++ (wsL_law_r11 ++ (wsL_law_r12 ++ (wsL_law_r13 ++ (wsL_law_r14 ++ (wsL_law_r15 ++ (wsL_law_r16 ++ (wsL_law_r17 ++ (wsL_law_r18 ++ (wsL_law_r19 ++ (wsL_law_r20 ++ (wsL_law_r21 ++ (wsL_law_r22 ++ (wsL_law_r23 ++ (wsL_law_r24 ++ (wsL_law_r25 ++ (wsL_law_r26 ++ (wsL_law_r27 ++ (wsL_law_r28 ++ wsL_law_r29)))))))))))))))))))))))))))) ++ wsX80 ++ wsX90 ++ wsX70 ++ wsX50 ++ wsX00 ++ wsX10 ++ wsX30 ++ wsX60 ++ wsX20 ++ wsX40 ++ ([] : List Cond)
abbrev vwCl : List vw_C := [(RX0, TX0, 5), (RX1, TX1, 5), (RX2, TX2, 3), (RX3, TX3, 5), (RX4, TX4, 5), (RX5, TX5, 12), (RX6, TX6, 4), (RX7, TX7, 5), (RX8, TX8, 9), (RX9, TX9, 16)]
end
section
/-! the links to private members of nest mates -/
def NWf : List (String × Nat × String × String × String × String) := [(RX8, 208, RX7, "lesser", "[I", RX8), (RX8, 211, RX7, "greater", "[I", RX8), (RX8, 214, RX7, "sign", "[I", RX8), (RX8, 247, RX4, "sides", "[I", RX8), (RX8, 250, RX4, "alongs", "[I", RX8), (RX8, 253, RX4, "strokes", "[I", RX8), (RX6, 31, RX4, "size", "I", RX8), (RX8, 133, RX4, "size", "I", RX8), (RX5, 58, RX8, "FIRST_SETTING", "[I", RX8), (RX8, 79, RX5, "grains", "[I", RX8), (RX1, 53, RX5, "grains", "[I", RX8), (RX3, 64, RX5, "grains", "[I", RX8), (RX0, 36, RX5, "clampColumns", "[I", RX8), (RX8, 104, RX5, "clampColumns", "[I", RX8), (RX0, 39, RX5, "clampRows", "[I", RX8), (RX8, 107, RX5, "clampRows", "[I", RX8), (RX0, 31, RX5, "clamps", "I", RX8), (RX8, 98, RX5, "clamps", "I", RX8), (RX1, 37, RX5, "settings", "[I", RX8), (RX0, 48, RX5, "settings", "[I", RX8), (RX3, 59, RX5, "settings", "[I", RX8), (RX8, 123, RX5, "settings", "[I", RX8), (RX8, 129, RX5, "piece", "LBowedPlate$Piece;", RX8), (RX8, 187, RX5, "lastWay", "I", RX8), (RX8, 83, RX5, "strewn", "I", RX8), (RX8, 91, RX5, "swept", "I", RX8), (RX3, 75, RX5, "fallen", "I", RX8), (RX8, 259, RX5, "fallen", "I", RX8), (RX8, 262, RX5, "strokes", "I", RX8), (RX8, 264, RX5, "mutes", "I", RX8), (RX8, 244, RX0, "possibleWay", "[I", RX8), (RX8, 241, RX0, "possibleWays", "I", RX8), (RX8, 172, RX6, "length", "I", RX8), (RX8, 149, RX6, "piece", "LBowedPlate$Piece;", RX8), (RX8, 178, RX2, "held", "I", RX8)]
def NWm : List (String × Nat × MethodName × String) := [(RX8, 48, yX6_init, RX8), (RX7, 36, yX8_isWay, RX8), (RX7, 40, yX8_isPlace, RX8), (RX3, 29, yX8_columnOf, RX8), (RX3, 33, yX8_rowOf, RX8), (RX3, 49, yX8_placeOf, RX8), (RX3, 55, yX8_isPlace, RX8), (RX1, 42, yX8_columnOf, RX8), (RX1, 46, yX8_rowOf, RX8), (RX1, 64, yX8_isPlace, RX8), (RX1, 68, yX8_placeOf, RX8)]
end
section
/-! the packed walk: one predicate for 'the machine stands at pc with these locals, this stack, this world', a row an instruction -/
abbrev Fx : Type := Program × Launch × Env × Room × State × MethodId × Array Value × List Frame × Method × Code × (State → Prop) × Nat × va_G × (Nat × Nat × Nat) × (Nat → Prop)
abbrev TY (D : va_G) : List (ClassId × FieldType) := [(D.1 11, .int), (D.1 12, .boolean), (D.1 10, .char), (D.1 13, .object RX5)]
def zF : Nat → Int32 := fun j => match j with | 0 => 20 | 1 => 60 | 2 => 15 | _ => 150
def zL : Nat → Int32 := fun j => match j with | 0 => 0 | 1 => 1 | 2 => 0 | _ => 50
def zM : Nat → Int32 := fun j => match j with | 0 => 60 | 1 => 150 | 2 => 60 | _ => 201
def ZT (z : Nat × Nat × Nat) (A : Nat → Prop) (U : State) (H : Heap) : Prop :=
  (va_Z RX8 "FIRST_SETTING" "[I" (.ref z.1) A U H ∧ va_T .int z.1 4 (fun j => .int (zF j)) A U H) ∧ (va_Z RX8 "LEAST_SETTING" "[I" (.ref z.2.1) A U H ∧ va_T .int z.2.1 4 (fun j => .int (zL j)) A U H) ∧ (va_Z RX8 "MOST_SETTING" "[I" (.ref z.2.2) A U H ∧ va_T .int z.2.2 4 (fun j => .int (zM j)) A U H)
theorem ZT.moved {z : Nat × Nat × Nat} {A : Nat → Prop} {u U : State} {H : Heap} (hvm : u.vm.Alike U.vm) (h : ZT z A u H) : ZT z A U H :=
  ⟨⟨h.1.1.moved hvm, h.1.2.moved hvm⟩, ⟨h.2.1.1.moved hvm, h.2.1.2.moved hvm⟩, ⟨h.2.2.1.moved hvm, h.2.2.2.moved hvm⟩⟩
theorem ZT.kept {z : Nat × Nat × Nat} {A : Nat → Prop} {U : State} {H H1 : Heap} (h : ZT z A U H) (hq : ∀ a : Nat, a < H.size → ¬ A a → H1[a]? = H[a]?) : ZT z A U H1 :=
  ⟨⟨h.1.1.kept hq, h.1.2.kept hq⟩, ⟨h.2.1.1.kept hq, h.2.1.2.kept hq⟩, ⟨h.2.2.1.kept hq, h.2.2.2.kept hq⟩⟩
theorem ZT.narrow {z : Nat × Nat × Nat} {A B : Nat → Prop} {U : State} {H : Heap} (h : ZT z A U H) (hAB : ∀ q, B q → A q) : ZT z B U H :=
  ⟨⟨h.1.1.narrow hAB, h.1.2.narrow hAB⟩, ⟨h.2.1.1.narrow hAB, h.2.1.2.narrow hAB⟩, ⟨h.2.2.1.narrow hAB, h.2.2.2.narrow hAB⟩⟩
/-- the tables' part of a world: the classes, the array classes, the links to nest mates -/
def EN (D : va_G) (U : State) : Prop := va_K D vwCl (TY D) U ∧ (∀ q ∈ NWf, va_Nw (.fieldLinkNest q.1 q.2.1 q.2.2.1 q.2.2.2.1 q.2.2.2.2.1 q.2.2.2.2.2) U) ∧ (∀ q ∈ NWm, va_Nw (.methodLinkNest q.1 q.2.1 q.2.2.1 q.2.2.2) U)
theorem EN.warm {D : va_G} {s U : State} (hW : s.WarmedH U.vm) (h : EN D s) : EN D U :=
  ⟨va_K.moved hW.alike h.1, fun q hq => va_Nw.warmF hW (h.2.1 q hq), fun q hq => va_Nw.warmM hW (h.2.2 q hq)⟩
theorem EN.same {D : va_G} {s U : State} (hvm : s.vm = U.vm) (h : EN D s) : EN D U :=
  ⟨va_K.moved (hvm ▸ Vm.Alike.refl s.vm) h.1, fun q hq => va_Nw.same rfl hvm (h.2.1 q hq), fun q hq => va_Nw.same rfl hvm (h.2.2 q hq)⟩
def CP (D : va_G) (z : Nat × Nat × Nat) (av : List Value) (win : va_W) (sz : Nat) : Array Value → State → Prop := fun v U =>
  v = av.toArray ∧ U.heap.size = sz ∧ va_P D vwCl win U.heap ∧ EN D U ∧ va_D (fun _ => True) win ∧ ZT z (va_A win sz) U U.heap
def CQ (D : va_G) (win : va_W) (post : Option Value → va_W → Prop) (sz : Nat) : Array Value → State → Outcome → State → Prop := fun _ st oc t =>
  (∃ (r : Option Value) (u : va_W), oc = .returned r ∧ post r u ∧ va_P D vwCl u t.heap ∧ va_D (va_A win sz) u) ∧ va_F (va_A win sz) st t
/-- a contract: from these arguments and this world the method comes to an answer and a world of post -/
def CM (l : Launch) (y : MethodName) (Ts : List Cond) (rm : Room) (D : va_G) (z : Nat × Nat × Nat) (av : List Value) (win : va_W) (post : Option Value → va_W → Prop) (mc ms : Nat) : Prop :=
  ∀ sz, Met l y Ts rm (CP D z av win sz) (CQ D win post sz) mc ms (va_A win sz)
def G (X : Fx) (k n pc : Nat) (L : List (Nat × Value)) (st : List Value) (ws : va_W) : Prop := match X with
  | (p, l, e, R, s, m, args, below, meth, c, Q, nL, D, _, A) => ∀ (ls : Array Slot) (H : Heap) (locs : List Loc), lv_has ls nL L → va_P D vwCl ws H → va_D A ws → va_S A s.heap H locs → W p l e R s m args below meth c H locs k n Q (F0 m pc ls st)
def Ok (X : Fx) (l : Launch) (D : va_G) (z : Nat × Nat × Nat) (cc : ByteArray) (own : String) (Ts : List Cond) (nL : Nat) (R : Room) (ini : Bool) : Prop := match X with
  | (p, l', _, R', s, m, args, _, meth, c, _, nL', D', z', A) => p.tables.exec = Jvm.exec ∧ c.code = cc ∧ c.maxLocals = nL ∧ s.vm.findClass own = some m.cls ∧ (∀ w ∈ Ts, w.before args s = true) ∧ EN D s ∧ (∀ q, s.heap.size ≤ q → A q) ∧ ZT z A s s.heap ∧ meth.locks = false ∧ l' = l ∧ D' = D ∧ z' = z ∧ nL' = nL ∧ R' = R ∧ (ini = true → meth.name = "<init>")
section GR
variable {X : Fx} {l : Launch} {D : va_G} {z : Nat × Nat × Nat} {cc : ByteArray} {own : String} {Ts : List Cond} {nL : Nat} {R : Room} {ini : Bool} {u v pc : Nat} {L L' : List (Nat × Value)} {st : List Value} {ws ws' : va_W}
theorem g_iload (O : Ok X l D z cc own Ts nL R ini) {i : Nat} {x : Int32} (hdg : decode cc pc = .ok (.iload i, 2)) (k : Nat) (hl : L[k]? = some (i, .int x)) (kk : G X u v (pc + 2) L (.int x :: st) ws) : G X u v pc L st ws := by
  obtain ⟨p, l', e, R', s, m, args, below, meth, c, Q, nL', D', z', A⟩ := X
  obtain ⟨hx, hb, hml, hown, hts, hE, hA, hZ, hlk, rfl, rfl, rfl, rfl, rfl, hin⟩ := O
  intro ls H locs hL hP hD hS
  exact lv_iload hx hb hdg (lv_at hL k hl) (kk ls H locs hL hP hD hS)
theorem g_iload_n (O : Ok X l D z cc own Ts nL R ini) {i : Fin 4} {j : Nat} {x : Int32} (hdg : decode cc pc = .ok (.iload_n i, 1)) (k : Nat) (hi : (i : Nat) = j) (hl : L[k]? = some (j, .int x)) (kk : G X u v (pc + 1) L (.int x :: st) ws) : G X u v pc L st ws := by
  obtain ⟨p, l', e, R', s, m, args, below, meth, c, Q, nL', D', z', A⟩ := X
  obtain ⟨hx, hb, hml, hown, hts, hE, hA, hZ, hlk, rfl, rfl, rfl, rfl, rfl, hin⟩ := O
  intro ls H locs hL hP hD hS
  exact lv_iload_n hx hb hdg hi (lv_at hL k hl) (kk ls H locs hL hP hD hS)
theorem g_aload_n (O : Ok X l D z cc own Ts nL R ini) {i : Fin 4} {j : Nat} {x : Nat} (hdg : decode cc pc = .ok (.aload_n i, 1)) (k : Nat) (hi : (i : Nat) = j) (hl : L[k]? = some (j, .ref x)) (kk : G X u v (pc + 1) L (.ref x :: st) ws) : G X u v pc L st ws := by
  obtain ⟨p, l', e, R', s, m, args, below, meth, c, Q, nL', D', z', A⟩ := X
  obtain ⟨hx, hb, hml, hown, hts, hE, hA, hZ, hlk, rfl, rfl, rfl, rfl, rfl, hin⟩ := O
  intro ls H locs hL hP hD hS
  exact lv_aload_n hx hb hdg hi (lv_at hL k hl) (kk ls H locs hL hP hD hS)
theorem g_istore (O : Ok X l D z cc own Ts nL R ini) {i : Nat} {x : Int32} (hdg : decode cc pc = .ok (.istore i, 2)) (hn : i < nL) (ks : List Nat) (hl : lv_pick ((i, Value.int x) :: L.filter (fun q => !(q.1 == i) && !(q.1 + 1 == i && q.2.category == 2))) ks = L') (kk : G X u v (pc + 2) L' st ws) : G X u v pc L (.int x :: st) ws := by
  obtain ⟨p, l', e, R', s, m, args, below, meth, c, Q, nL', D', z', A⟩ := X
  obtain ⟨hx, hb, hml, hown, hts, hE, hA, hZ, hlk, rfl, rfl, rfl, rfl, rfl, hin⟩ := O
  intro ls H locs hL hP hD hS
  exact lv_istore hx hb hdg hL hn rfl (fun ls' hl' => kk ls' H locs (lv_sub hl' ks hl) hP hD hS)
theorem g_istore_n (O : Ok X l D z cc own Ts nL R ini) {i : Fin 4} {j : Nat} {x : Int32} (hdg : decode cc pc = .ok (.istore_n i, 1)) (hi : (i : Nat) = j) (hn : j < nL) (ks : List Nat) (hl : lv_pick ((j, Value.int x) :: L.filter (fun q => !(q.1 == j) && !(q.1 + 1 == j && q.2.category == 2))) ks = L') (kk : G X u v (pc + 1) L' st ws) : G X u v pc L (.int x :: st) ws := by
  obtain ⟨p, l', e, R', s, m, args, below, meth, c, Q, nL', D', z', A⟩ := X
  obtain ⟨hx, hb, hml, hown, hts, hE, hA, hZ, hlk, rfl, rfl, rfl, rfl, rfl, hin⟩ := O
  intro ls H locs hL hP hD hS
  exact lv_istore_n hx hb hdg hi hL hn rfl (fun ls' hl' => kk ls' H locs (lv_sub hl' ks hl) hP hD hS)
theorem g_astore_n (O : Ok X l D z cc own Ts nL R ini) {i : Fin 4} {j : Nat} {x : Nat} (hdg : decode cc pc = .ok (.astore_n i, 1)) (hi : (i : Nat) = j) (hn : j < nL) (ks : List Nat) (hl : lv_pick ((j, Value.ref x) :: L.filter (fun q => !(q.1 == j) && !(q.1 + 1 == j && q.2.category == 2))) ks = L') (kk : G X u v (pc + 1) L' st ws) : G X u v pc L (.ref x :: st) ws := by
  obtain ⟨p, l', e, R', s, m, args, below, meth, c, Q, nL', D', z', A⟩ := X
  obtain ⟨hx, hb, hml, hown, hts, hE, hA, hZ, hlk, rfl, rfl, rfl, rfl, rfl, hin⟩ := O
  intro ls H locs hL hP hD hS
  exact lv_astore_n hx hb hdg hi hL hn rfl (fun ls' hl' => kk ls' H locs (lv_sub hl' ks hl) hP hD hS)
theorem g_iinc (O : Ok X l D z cc own Ts nL R ini) {i : Nat} {n : Int} {x y : Int32} (hdg : decode cc pc = .ok (.iinc i n, 3)) (k : Nat) (hk : L[k]? = some (i, .int x)) (hv : x + Int32.ofInt n = y) (hn : i < nL) (ks : List Nat) (hl : lv_pick ((i, Value.int y) :: L.filter (fun q => !(q.1 == i) && !(q.1 + 1 == i && q.2.category == 2))) ks = L') (kk : G X u v (pc + 3) L' st ws) : G X u v pc L st ws := by
  obtain ⟨p, l', e, R', s, m, args, below, meth, c, Q, nL', D', z', A⟩ := X
  obtain ⟨hx, hb, hml, hown, hts, hE, hA, hZ, hlk, rfl, rfl, rfl, rfl, rfl, hin⟩ := O
  intro ls H locs hL hP hD hS
  exact lv_iinc hx hb hdg hL hk hv hn rfl (fun ls' hl' => kk ls' H locs (lv_sub hl' ks hl) hP hD hS)
theorem g_iconst (O : Ok X l D z cc own Ts nL R ini) {n : Int} {x : Int32} (hdg : decode cc pc = .ok (.iconst n, 1)) (hv : Int32.ofInt n = x) (kk : G X u v (pc + 1) L (.int x :: st) ws) : G X u v pc L st ws := by
  obtain ⟨p, l', e, R', s, m, args, below, meth, c, Q, nL', D', z', A⟩ := X
  obtain ⟨hx, hb, hml, hown, hts, hE, hA, hZ, hlk, rfl, rfl, rfl, rfl, rfl, hin⟩ := O
  intro ls H locs hL hP hD hS
  exact lv_iconst hx hb hdg hv (kk ls H locs hL hP hD hS)
theorem g_bipush (O : Ok X l D z cc own Ts nL R ini) {n : Int} {x : Int32} (hdg : decode cc pc = .ok (.bipush n, 2)) (hv : (Int8.ofInt n).toInt32 = x) (kk : G X u v (pc + 2) L (.int x :: st) ws) : G X u v pc L st ws := by
  obtain ⟨p, l', e, R', s, m, args, below, meth, c, Q, nL', D', z', A⟩ := X
  obtain ⟨hx, hb, hml, hown, hts, hE, hA, hZ, hlk, rfl, rfl, rfl, rfl, rfl, hin⟩ := O
  intro ls H locs hL hP hD hS
  exact lv_bipush hx hb hdg hv (kk ls H locs hL hP hD hS)
theorem g_sipush (O : Ok X l D z cc own Ts nL R ini) {n : Int} {x : Int32} (hdg : decode cc pc = .ok (.sipush n, 3)) (hv : (Int16.ofInt n).toInt32 = x) (kk : G X u v (pc + 3) L (.int x :: st) ws) : G X u v pc L st ws := by
  obtain ⟨p, l', e, R', s, m, args, below, meth, c, Q, nL', D', z', A⟩ := X
  obtain ⟨hx, hb, hml, hown, hts, hE, hA, hZ, hlk, rfl, rfl, rfl, rfl, rfl, hin⟩ := O
  intro ls H locs hL hP hD hS
  exact lv_sipush hx hb hdg hv (kk ls H locs hL hP hD hS)
theorem g_goto (O : Ok X l D z cc own Ts nL R ini) {off : Int} {tgt : Nat} (hdg : decode cc pc = .ok (.goto off, 3)) (ht : (pc : Int) + off = (tgt : Int)) (kk : G X u v tgt L st ws) : G X u v pc L st ws := by
  obtain ⟨p, l', e, R', s, m, args, below, meth, c, Q, nL', D', z', A⟩ := X
  obtain ⟨hx, hb, hml, hown, hts, hE, hA, hZ, hlk, rfl, rfl, rfl, rfl, rfl, hin⟩ := O
  intro ls H locs hL hP hD hS
  exact lv_goto hx hb hdg ht (kk ls H locs hL hP hD hS)
theorem g_dup (O : Ok X l D z cc own Ts nL R ini) {va : Value} (hdg : decode cc pc = .ok (.dup, 1)) (hva : va.category = 1) (kk : G X u v (pc + 1) L (va :: va :: st) ws) : G X u v pc L (va :: st) ws := by
  obtain ⟨p, l', e, R', s, m, args, below, meth, c, Q, nL', D', z', A⟩ := X
  obtain ⟨hx, hb, hml, hown, hts, hE, hA, hZ, hlk, rfl, rfl, rfl, rfl, rfl, hin⟩ := O
  intro ls H locs hL hP hD hS
  exact lv_dup hx hb hdg hva (kk ls H locs hL hP hD hS)
/-- what is known at a place may be put otherwise -/
theorem g_perm (is : List Nat) (hs : is.map (fun i => ws[i]?) = ws'.map some) (hn : va_nd is = true) (kk : G X u v pc L st ws') : G X u v pc L st ws := by
  obtain ⟨p, l', e, R', s, m, args, below, meth, c, Q, nL', D', z', A⟩ := X
  intro ls H locs hL hP hD hS
  refine kk ls H locs hL (hP.sub is ?_) (hD.sub is hn hs) hS
  have h1 : (is.map (fun i => ws[i]?)).filterMap id = (ws'.map some).filterMap id := by rw [hs]
  rw [List.filterMap_map, List.filterMap_map] at h1
  simpa using h1
theorem g_locals (ks : List Nat) (hl : lv_pick L ks = L') (kk : G X u v pc L' st ws) : G X u v pc L st ws := by
  obtain ⟨p, l', e, R', s, m, args, below, meth, c, Q, nL', D', z', A⟩ := X
  intro ls H locs hL hP hD hS
  exact kk ls H locs (lv_sub hL ks hl) hP hD hS
theorem g_eq {st' : List Value} (hs : st = st') (hL : L = L') (hw : ws = ws') (kk : G X u v pc L' st' ws') : G X u v pc L st ws := by
  subst hs; subst hL; subst hw; exact kk
theorem g_pc {pc' : Nat} (h : pc = pc') (kk : G X u v pc' L st ws) : G X u v pc L st ws := h ▸ kk
end GR
end
section
/-! the packed walk, its other rows -/
section GR
variable {X : Fx} {l : Launch} {D : va_G} {z : Nat × Nat × Nat} {cc : ByteArray} {own : String} {Ts : List Cond} {nL : Nat} {R : Room} {ini : Bool} {u v pc : Nat} {L L' : List (Nat × Value)} {st : List Value} {ws ws' : va_W}
theorem g_iadd (O : Ok X l D z cc own Ts nL R ini) {x y : Int32} (hdg : decode cc pc = .ok (.iadd, 1)) (kk : G X u v (pc + 1) L (.int (x + y) :: st) ws) : G X u v pc L (.int y :: .int x :: st) ws := by
  obtain ⟨p, l', e, R', s, m, args, below, meth, c, Q, nL', D', z', A⟩ := X
  obtain ⟨hx, hb, hml, hown, hts, hE, hA, hZ, hlk, rfl, rfl, rfl, rfl, rfl, hin⟩ := O
  intro ls H locs hL hP hD hS
  exact lv_iadd hx hb hdg (kk ls H locs hL hP hD hS)
theorem g_isub (O : Ok X l D z cc own Ts nL R ini) {x y : Int32} (hdg : decode cc pc = .ok (.isub, 1)) (kk : G X u v (pc + 1) L (.int (x - y) :: st) ws) : G X u v pc L (.int y :: .int x :: st) ws := by
  obtain ⟨p, l', e, R', s, m, args, below, meth, c, Q, nL', D', z', A⟩ := X
  obtain ⟨hx, hb, hml, hown, hts, hE, hA, hZ, hlk, rfl, rfl, rfl, rfl, rfl, hin⟩ := O
  intro ls H locs hL hP hD hS
  exact lv_isub hx hb hdg (kk ls H locs hL hP hD hS)
theorem g_imul (O : Ok X l D z cc own Ts nL R ini) {x y : Int32} (hdg : decode cc pc = .ok (.imul, 1)) (kk : G X u v (pc + 1) L (.int (x * y) :: st) ws) : G X u v pc L (.int y :: .int x :: st) ws := by
  obtain ⟨p, l', e, R', s, m, args, below, meth, c, Q, nL', D', z', A⟩ := X
  obtain ⟨hx, hb, hml, hown, hts, hE, hA, hZ, hlk, rfl, rfl, rfl, rfl, rfl, hin⟩ := O
  intro ls H locs hL hP hD hS
  exact lv_imul hx hb hdg (kk ls H locs hL hP hD hS)
theorem g_iand (O : Ok X l D z cc own Ts nL R ini) {x y : Int32} (hdg : decode cc pc = .ok (.iand, 1)) (kk : G X u v (pc + 1) L (.int (x &&& y) :: st) ws) : G X u v pc L (.int y :: .int x :: st) ws := by
  obtain ⟨p, l', e, R', s, m, args, below, meth, c, Q, nL', D', z', A⟩ := X
  obtain ⟨hx, hb, hml, hown, hts, hE, hA, hZ, hlk, rfl, rfl, rfl, rfl, rfl, hin⟩ := O
  intro ls H locs hL hP hD hS
  exact lv_iand hx hb hdg (kk ls H locs hL hP hD hS)
theorem g_idiv (O : Ok X l D z cc own Ts nL R ini) {x y : Int32} (hdg : decode cc pc = .ok (.idiv, 1)) (hne : ¬ y = 0) (kk : G X u v (pc + 1) L (.int (x / y) :: st) ws) : G X u v pc L (.int y :: .int x :: st) ws := by
  obtain ⟨p, l', e, R', s, m, args, below, meth, c, Q, nL', D', z', A⟩ := X
  obtain ⟨hx, hb, hml, hown, hts, hE, hA, hZ, hlk, rfl, rfl, rfl, rfl, rfl, hin⟩ := O
  intro ls H locs hL hP hD hS
  exact lv_idiv hx hb hdg hne (kk ls H locs hL hP hD hS)
theorem g_irem (O : Ok X l D z cc own Ts nL R ini) {x y : Int32} (hdg : decode cc pc = .ok (.irem, 1)) (hne : ¬ y = 0) (kk : G X u v (pc + 1) L (.int (x - x / y * y) :: st) ws) : G X u v pc L (.int y :: .int x :: st) ws := by
  obtain ⟨p, l', e, R', s, m, args, below, meth, c, Q, nL', D', z', A⟩ := X
  obtain ⟨hx, hb, hml, hown, hts, hE, hA, hZ, hlk, rfl, rfl, rfl, rfl, rfl, hin⟩ := O
  intro ls H locs hL hP hD hS
  exact lv_irem hx hb hdg hne (kk ls H locs hL hP hD hS)
theorem g_ineg (O : Ok X l D z cc own Ts nL R ini) {x : Int32} (hdg : decode cc pc = .ok (.ineg, 1)) (kk : G X u v (pc + 1) L (.int (-x) :: st) ws) : G X u v pc L (.int x :: st) ws := by
  obtain ⟨p, l', e, R', s, m, args, below, meth, c, Q, nL', D', z', A⟩ := X
  obtain ⟨hx, hb, hml, hown, hts, hE, hA, hZ, hlk, rfl, rfl, rfl, rfl, rfl, hin⟩ := O
  intro ls H locs hL hP hD hS
  exact lv_ineg hx hb hdg (kk ls H locs hL hP hD hS)
theorem g_i2c (O : Ok X l D z cc own Ts nL R ini) {x y : Int32} (hdg : decode cc pc = .ok (.i2c, 1)) (hv : (x.toUInt32 % 65536).toInt32 = y) (kk : G X u v (pc + 1) L (.int y :: st) ws) : G X u v pc L (.int x :: st) ws := by
  obtain ⟨p, l', e, R', s, m, args, below, meth, c, Q, nL', D', z', A⟩ := X
  obtain ⟨hx, hb, hml, hown, hts, hE, hA, hZ, hlk, rfl, rfl, rfl, rfl, rfl, hin⟩ := O
  intro ls H locs hL hP hD hS
  exact lv_i2c hx hb hdg hv (kk ls H locs hL hP hD hS)
theorem g_dup2 (O : Ok X l D z cc own Ts nL R ini) {va vb : Value} (hdg : decode cc pc = .ok (.dup2, 1)) (hva : va.category = 1) (hvb : vb.category = 1) (kk : G X u v (pc + 1) L (va :: vb :: va :: vb :: st) ws) : G X u v pc L (va :: vb :: st) ws := by
  obtain ⟨p, l', e, R', s, m, args, below, meth, c, Q, nL', D', z', A⟩ := X
  obtain ⟨hx, hb, hml, hown, hts, hE, hA, hZ, hlk, rfl, rfl, rfl, rfl, rfl, hin⟩ := O
  intro ls H locs hL hP hD hS
  exact lv_dup2_11 hx hb hdg hva hvb (kk ls H locs hL hP hD hS)
theorem g_iaddN (O : Ok X l D z cc own Ts nL R ini) {a b : Nat} (hdg : decode cc pc = .ok (.iadd, 1)) (kk : G X u v (pc + 1) L (.int (nI (a + b)) :: st) ws) : G X u v pc L (.int (nI b) :: .int (nI a) :: st) ws := g_iadd O hdg (by rw [nI_add]; exact kk)
theorem g_imulN (O : Ok X l D z cc own Ts nL R ini) {a b : Nat} (hdg : decode cc pc = .ok (.imul, 1)) (kk : G X u v (pc + 1) L (.int (nI (a * b)) :: st) ws) : G X u v pc L (.int (nI b) :: .int (nI a) :: st) ws := g_imul O hdg (by rw [pk_mul]; exact kk)
theorem g_isubN (O : Ok X l D z cc own Ts nL R ini) {a b : Nat} (h : b ≤ a) (hdg : decode cc pc = .ok (.isub, 1)) (kk : G X u v (pc + 1) L (.int (nI (a - b)) :: st) ws) : G X u v pc L (.int (nI b) :: .int (nI a) :: st) ws := g_isub O hdg (by rw [pk_sub h]; exact kk)
theorem g_idivN (O : Ok X l D z cc own Ts nL R ini) {a b : Nat} (ha : a < 2147483648) (hb0 : 0 < b) (hb1 : b < 2147483648) (hdg : decode cc pc = .ok (.idiv, 1)) (kk : G X u v (pc + 1) L (.int (nI (a / b)) :: st) ws) : G X u v pc L (.int (nI b) :: .int (nI a) :: st) ws := g_idiv O hdg (nI_ne0 hb0 hb1) (by rw [pk_div ha hb0 hb1]; exact kk)
theorem g_iremN (O : Ok X l D z cc own Ts nL R ini) {a b : Nat} (ha : a < 2147483648) (hb0 : 0 < b) (hb1 : b < 2147483648) (hdg : decode cc pc = .ok (.irem, 1)) (kk : G X u v (pc + 1) L (.int (nI (a % b)) :: st) ws) : G X u v pc L (.int (nI b) :: .int (nI a) :: st) ws := g_irem O hdg (nI_ne0 hb0 hb1) (by rw [pk_rem ha hb0 hb1]; exact kk)
theorem g_iincN (O : Ok X l D z cc own Ts nL R ini) {i : Nat} {x : Nat} (hdg : decode cc pc = .ok (.iinc i 1, 3)) (k : Nat) (hk : L[k]? = some (i, .int (nI x))) (hn : i < nL) (ks : List Nat) (hl : lv_pick ((i, Value.int (nI (x + 1))) :: L.filter (fun q => !(q.1 == i) && !(q.1 + 1 == i && q.2.category == 2))) ks = L') (kk : G X u v (pc + 3) L' st ws) : G X u v pc L st ws := g_iinc O hdg k hk (nI_1 x) hn ks hl kk
theorem g_icmp_eq (O : Ok X l D z cc own Ts nL R ini) {x y : Int32} {off : Int} {tgt : Nat} (hdg : decode cc pc = .ok (.if_icmp .eq off, 3)) (ht : (pc : Int) + off = (tgt : Int)) (kt : x = y → G X u v tgt L st ws) (kf : ¬ x = y → G X u v (pc + 3) L st ws) : G X u v pc L (.int y :: .int x :: st) ws := by
  obtain ⟨p, l', e, R', s, m, args, below, meth, c, Q, nL', D', z', A⟩ := X
  obtain ⟨hx, hb, hml, hown, hts, hE, hA, hZ, hlk, rfl, rfl, rfl, rfl, rfl, hin⟩ := O
  intro ls H locs hL hP hD hS
  exact lv_icmp_eq hx hb hdg ht (fun h => kt h ls H locs hL hP hD hS) (fun h => kf h ls H locs hL hP hD hS)
theorem g_icmp_ne (O : Ok X l D z cc own Ts nL R ini) {x y : Int32} {off : Int} {tgt : Nat} (hdg : decode cc pc = .ok (.if_icmp .ne off, 3)) (ht : (pc : Int) + off = (tgt : Int)) (kt : ¬ x = y → G X u v tgt L st ws) (kf : x = y → G X u v (pc + 3) L st ws) : G X u v pc L (.int y :: .int x :: st) ws := by
  obtain ⟨p, l', e, R', s, m, args, below, meth, c, Q, nL', D', z', A⟩ := X
  obtain ⟨hx, hb, hml, hown, hts, hE, hA, hZ, hlk, rfl, rfl, rfl, rfl, rfl, hin⟩ := O
  intro ls H locs hL hP hD hS
  exact lv_icmp_ne hx hb hdg ht (fun h => kt h ls H locs hL hP hD hS) (fun h => kf h ls H locs hL hP hD hS)
theorem g_icmp_lt (O : Ok X l D z cc own Ts nL R ini) {x y : Int32} {off : Int} {tgt : Nat} (hdg : decode cc pc = .ok (.if_icmp .lt off, 3)) (ht : (pc : Int) + off = (tgt : Int)) (kt : x < y → G X u v tgt L st ws) (kf : ¬ x < y → G X u v (pc + 3) L st ws) : G X u v pc L (.int y :: .int x :: st) ws := by
  obtain ⟨p, l', e, R', s, m, args, below, meth, c, Q, nL', D', z', A⟩ := X
  obtain ⟨hx, hb, hml, hown, hts, hE, hA, hZ, hlk, rfl, rfl, rfl, rfl, rfl, hin⟩ := O
  intro ls H locs hL hP hD hS
  exact lv_icmp_lt hx hb hdg ht (fun h => kt h ls H locs hL hP hD hS) (fun h => kf h ls H locs hL hP hD hS)
theorem g_icmp_ge (O : Ok X l D z cc own Ts nL R ini) {x y : Int32} {off : Int} {tgt : Nat} (hdg : decode cc pc = .ok (.if_icmp .ge off, 3)) (ht : (pc : Int) + off = (tgt : Int)) (kt : y ≤ x → G X u v tgt L st ws) (kf : ¬ y ≤ x → G X u v (pc + 3) L st ws) : G X u v pc L (.int y :: .int x :: st) ws := by
  obtain ⟨p, l', e, R', s, m, args, below, meth, c, Q, nL', D', z', A⟩ := X
  obtain ⟨hx, hb, hml, hown, hts, hE, hA, hZ, hlk, rfl, rfl, rfl, rfl, rfl, hin⟩ := O
  intro ls H locs hL hP hD hS
  exact lv_icmp_ge hx hb hdg ht (fun h => kt h ls H locs hL hP hD hS) (fun h => kf h ls H locs hL hP hD hS)
theorem g_icmp_gt (O : Ok X l D z cc own Ts nL R ini) {x y : Int32} {off : Int} {tgt : Nat} (hdg : decode cc pc = .ok (.if_icmp .gt off, 3)) (ht : (pc : Int) + off = (tgt : Int)) (kt : y < x → G X u v tgt L st ws) (kf : ¬ y < x → G X u v (pc + 3) L st ws) : G X u v pc L (.int y :: .int x :: st) ws := by
  obtain ⟨p, l', e, R', s, m, args, below, meth, c, Q, nL', D', z', A⟩ := X
  obtain ⟨hx, hb, hml, hown, hts, hE, hA, hZ, hlk, rfl, rfl, rfl, rfl, rfl, hin⟩ := O
  intro ls H locs hL hP hD hS
  exact lv_icmp_gt hx hb hdg ht (fun h => kt h ls H locs hL hP hD hS) (fun h => kf h ls H locs hL hP hD hS)
theorem g_icmp_le (O : Ok X l D z cc own Ts nL R ini) {x y : Int32} {off : Int} {tgt : Nat} (hdg : decode cc pc = .ok (.if_icmp .le off, 3)) (ht : (pc : Int) + off = (tgt : Int)) (kt : x ≤ y → G X u v tgt L st ws) (kf : ¬ x ≤ y → G X u v (pc + 3) L st ws) : G X u v pc L (.int y :: .int x :: st) ws := by
  obtain ⟨p, l', e, R', s, m, args, below, meth, c, Q, nL', D', z', A⟩ := X
  obtain ⟨hx, hb, hml, hown, hts, hE, hA, hZ, hlk, rfl, rfl, rfl, rfl, rfl, hin⟩ := O
  intro ls H locs hL hP hD hS
  exact lv_icmp_le hx hb hdg ht (fun h => kt h ls H locs hL hP hD hS) (fun h => kf h ls H locs hL hP hD hS)
theorem g_icmp_eqN (O : Ok X l D z cc own Ts nL R ini) {a b : Nat} (ha1 : a < 2147483648) (hb1 : b < 2147483648) {off : Int} {tgt : Nat} (hdg : decode cc pc = .ok (.if_icmp .eq off, 3)) (ht : (pc : Int) + off = (tgt : Int)) (kt : a = b → G X u v tgt L st ws) (kf : a ≠ b → G X u v (pc + 3) L st ws) : G X u v pc L (.int (nI b) :: .int (nI a) :: st) ws := g_icmp_eq O hdg ht (fun h => kt ((nI_eq ha1 hb1).mp h)) (fun h => kf (fun h2 => h ((nI_eq ha1 hb1).mpr h2)))
theorem g_icmp_neN (O : Ok X l D z cc own Ts nL R ini) {a b : Nat} (ha1 : a < 2147483648) (hb1 : b < 2147483648) {off : Int} {tgt : Nat} (hdg : decode cc pc = .ok (.if_icmp .ne off, 3)) (ht : (pc : Int) + off = (tgt : Int)) (kt : a ≠ b → G X u v tgt L st ws) (kf : a = b → G X u v (pc + 3) L st ws) : G X u v pc L (.int (nI b) :: .int (nI a) :: st) ws := g_icmp_ne O hdg ht (fun h => kt (fun h2 => h ((nI_eq ha1 hb1).mpr h2))) (fun h => kf ((nI_eq ha1 hb1).mp h))
theorem g_icmp_ltN (O : Ok X l D z cc own Ts nL R ini) {a b : Nat} (ha1 : a < 2147483648) (hb1 : b < 2147483648) {off : Int} {tgt : Nat} (hdg : decode cc pc = .ok (.if_icmp .lt off, 3)) (ht : (pc : Int) + off = (tgt : Int)) (kt : a < b → G X u v tgt L st ws) (kf : b ≤ a → G X u v (pc + 3) L st ws) : G X u v pc L (.int (nI b) :: .int (nI a) :: st) ws := g_icmp_lt O hdg ht (fun h => kt ((nI_ltI ha1 hb1).mp h)) (fun h => kf (Nat.le_of_not_lt (fun h2 => h ((nI_ltI ha1 hb1).mpr h2))))
theorem g_icmp_geN (O : Ok X l D z cc own Ts nL R ini) {a b : Nat} (ha1 : a < 2147483648) (hb1 : b < 2147483648) {off : Int} {tgt : Nat} (hdg : decode cc pc = .ok (.if_icmp .ge off, 3)) (ht : (pc : Int) + off = (tgt : Int)) (kt : b ≤ a → G X u v tgt L st ws) (kf : a < b → G X u v (pc + 3) L st ws) : G X u v pc L (.int (nI b) :: .int (nI a) :: st) ws := g_icmp_ge O hdg ht (fun h => kt ((nI_leI hb1 ha1).mp h)) (fun h => kf (Nat.lt_of_not_le (fun h2 => h ((nI_leI hb1 ha1).mpr h2))))
theorem g_icmp_gtN (O : Ok X l D z cc own Ts nL R ini) {a b : Nat} (ha1 : a < 2147483648) (hb1 : b < 2147483648) {off : Int} {tgt : Nat} (hdg : decode cc pc = .ok (.if_icmp .gt off, 3)) (ht : (pc : Int) + off = (tgt : Int)) (kt : b < a → G X u v tgt L st ws) (kf : a ≤ b → G X u v (pc + 3) L st ws) : G X u v pc L (.int (nI b) :: .int (nI a) :: st) ws := g_icmp_gt O hdg ht (fun h => kt ((nI_ltI hb1 ha1).mp h)) (fun h => kf (Nat.le_of_not_lt (fun h2 => h ((nI_ltI hb1 ha1).mpr h2))))
theorem g_icmp_leN (O : Ok X l D z cc own Ts nL R ini) {a b : Nat} (ha1 : a < 2147483648) (hb1 : b < 2147483648) {off : Int} {tgt : Nat} (hdg : decode cc pc = .ok (.if_icmp .le off, 3)) (ht : (pc : Int) + off = (tgt : Int)) (kt : a ≤ b → G X u v tgt L st ws) (kf : b < a → G X u v (pc + 3) L st ws) : G X u v pc L (.int (nI b) :: .int (nI a) :: st) ws := g_icmp_le O hdg ht (fun h => kt ((nI_leI ha1 hb1).mp h)) (fun h => kf (Nat.lt_of_not_le (fun h2 => h ((nI_leI ha1 hb1).mpr h2))))
theorem g_if_eq (O : Ok X l D z cc own Ts nL R ini) {x : Int32} {off : Int} {tgt : Nat} (hdg : decode cc pc = .ok (.ifCond .eq off, 3)) (ht : (pc : Int) + off = (tgt : Int)) (kt : x = 0 → G X u v tgt L st ws) (kf : ¬ x = 0 → G X u v (pc + 3) L st ws) : G X u v pc L (.int x :: st) ws := by
  obtain ⟨p, l', e, R', s, m, args, below, meth, c, Q, nL', D', z', A⟩ := X
  obtain ⟨hx, hb, hml, hown, hts, hE, hA, hZ, hlk, rfl, rfl, rfl, rfl, rfl, hin⟩ := O
  intro ls H locs hL hP hD hS
  exact lv_if_eq hx hb hdg ht (fun h => kt h ls H locs hL hP hD hS) (fun h => kf h ls H locs hL hP hD hS)
theorem g_if_ne (O : Ok X l D z cc own Ts nL R ini) {x : Int32} {off : Int} {tgt : Nat} (hdg : decode cc pc = .ok (.ifCond .ne off, 3)) (ht : (pc : Int) + off = (tgt : Int)) (kt : ¬ x = 0 → G X u v tgt L st ws) (kf : x = 0 → G X u v (pc + 3) L st ws) : G X u v pc L (.int x :: st) ws := by
  obtain ⟨p, l', e, R', s, m, args, below, meth, c, Q, nL', D', z', A⟩ := X
  obtain ⟨hx, hb, hml, hown, hts, hE, hA, hZ, hlk, rfl, rfl, rfl, rfl, rfl, hin⟩ := O
  intro ls H locs hL hP hD hS
  exact lv_if_ne hx hb hdg ht (fun h => kt h ls H locs hL hP hD hS) (fun h => kf h ls H locs hL hP hD hS)
theorem g_if_lt (O : Ok X l D z cc own Ts nL R ini) {x : Int32} {off : Int} {tgt : Nat} (hdg : decode cc pc = .ok (.ifCond .lt off, 3)) (ht : (pc : Int) + off = (tgt : Int)) (kt : x < 0 → G X u v tgt L st ws) (kf : ¬ x < 0 → G X u v (pc + 3) L st ws) : G X u v pc L (.int x :: st) ws := by
  obtain ⟨p, l', e, R', s, m, args, below, meth, c, Q, nL', D', z', A⟩ := X
  obtain ⟨hx, hb, hml, hown, hts, hE, hA, hZ, hlk, rfl, rfl, rfl, rfl, rfl, hin⟩ := O
  intro ls H locs hL hP hD hS
  exact lv_if_lt hx hb hdg ht (fun h => kt h ls H locs hL hP hD hS) (fun h => kf h ls H locs hL hP hD hS)
theorem g_if_ge (O : Ok X l D z cc own Ts nL R ini) {x : Int32} {off : Int} {tgt : Nat} (hdg : decode cc pc = .ok (.ifCond .ge off, 3)) (ht : (pc : Int) + off = (tgt : Int)) (kt : 0 ≤ x → G X u v tgt L st ws) (kf : ¬ 0 ≤ x → G X u v (pc + 3) L st ws) : G X u v pc L (.int x :: st) ws := by
  obtain ⟨p, l', e, R', s, m, args, below, meth, c, Q, nL', D', z', A⟩ := X
  obtain ⟨hx, hb, hml, hown, hts, hE, hA, hZ, hlk, rfl, rfl, rfl, rfl, rfl, hin⟩ := O
  intro ls H locs hL hP hD hS
  exact lv_if_ge hx hb hdg ht (fun h => kt h ls H locs hL hP hD hS) (fun h => kf h ls H locs hL hP hD hS)
theorem g_if_gt (O : Ok X l D z cc own Ts nL R ini) {x : Int32} {off : Int} {tgt : Nat} (hdg : decode cc pc = .ok (.ifCond .gt off, 3)) (ht : (pc : Int) + off = (tgt : Int)) (kt : 0 < x → G X u v tgt L st ws) (kf : ¬ 0 < x → G X u v (pc + 3) L st ws) : G X u v pc L (.int x :: st) ws := by
  obtain ⟨p, l', e, R', s, m, args, below, meth, c, Q, nL', D', z', A⟩ := X
  obtain ⟨hx, hb, hml, hown, hts, hE, hA, hZ, hlk, rfl, rfl, rfl, rfl, rfl, hin⟩ := O
  intro ls H locs hL hP hD hS
  exact lv_if_gt hx hb hdg ht (fun h => kt h ls H locs hL hP hD hS) (fun h => kf h ls H locs hL hP hD hS)
theorem g_if_le (O : Ok X l D z cc own Ts nL R ini) {x : Int32} {off : Int} {tgt : Nat} (hdg : decode cc pc = .ok (.ifCond .le off, 3)) (ht : (pc : Int) + off = (tgt : Int)) (kt : x ≤ 0 → G X u v tgt L st ws) (kf : ¬ x ≤ 0 → G X u v (pc + 3) L st ws) : G X u v pc L (.int x :: st) ws := by
  obtain ⟨p, l', e, R', s, m, args, below, meth, c, Q, nL', D', z', A⟩ := X
  obtain ⟨hx, hb, hml, hown, hts, hE, hA, hZ, hlk, rfl, rfl, rfl, rfl, rfl, hin⟩ := O
  intro ls H locs hL hP hD hS
  exact lv_if_le hx hb hdg ht (fun h => kt h ls H locs hL hP hD hS) (fun h => kf h ls H locs hL hP hD hS)
theorem nI_z {a : Nat} (h : a < 2147483648) : nI a = 0 ↔ a = 0 := by rw [← nI_0]; exact nI_eq h (by omega)
theorem nI_le0 {a : Nat} (h : a < 2147483648) : nI a ≤ 0 ↔ a = 0 := by rw [← nI_0, nI_leI h (by omega)]; omega
theorem nI_lt0 {a : Nat} (h : a < 2147483648) : 0 < nI a ↔ 0 < a := by rw [← nI_0, nI_ltI (by omega) h]
theorem g_if_eqN (O : Ok X l D z cc own Ts nL R ini) {a : Nat} (ha1 : a < 2147483648) {off : Int} {tgt : Nat} (hdg : decode cc pc = .ok (.ifCond .eq off, 3)) (ht : (pc : Int) + off = (tgt : Int)) (kt : a = 0 → G X u v tgt L st ws) (kf : 0 < a → G X u v (pc + 3) L st ws) : G X u v pc L (.int (nI a) :: st) ws := g_if_eq O hdg ht (fun h => kt ((nI_z ha1).mp h)) (fun h => kf (Nat.pos_of_ne_zero (fun h2 => h ((nI_z ha1).mpr h2))))
theorem g_if_neN (O : Ok X l D z cc own Ts nL R ini) {a : Nat} (ha1 : a < 2147483648) {off : Int} {tgt : Nat} (hdg : decode cc pc = .ok (.ifCond .ne off, 3)) (ht : (pc : Int) + off = (tgt : Int)) (kt : 0 < a → G X u v tgt L st ws) (kf : a = 0 → G X u v (pc + 3) L st ws) : G X u v pc L (.int (nI a) :: st) ws := g_if_ne O hdg ht (fun h => kt (Nat.pos_of_ne_zero (fun h2 => h ((nI_z ha1).mpr h2)))) (fun h => kf ((nI_z ha1).mp h))
theorem g_if_leN (O : Ok X l D z cc own Ts nL R ini) {a : Nat} (ha1 : a < 2147483648) {off : Int} {tgt : Nat} (hdg : decode cc pc = .ok (.ifCond .le off, 3)) (ht : (pc : Int) + off = (tgt : Int)) (kt : a = 0 → G X u v tgt L st ws) (kf : 0 < a → G X u v (pc + 3) L st ws) : G X u v pc L (.int (nI a) :: st) ws := g_if_le O hdg ht (fun h => kt ((nI_le0 ha1).mp h)) (fun h => kf (Nat.pos_of_ne_zero (fun h2 => h ((nI_le0 ha1).mpr h2))))
theorem g_if_gtN (O : Ok X l D z cc own Ts nL R ini) {a : Nat} (ha1 : a < 2147483648) {off : Int} {tgt : Nat} (hdg : decode cc pc = .ok (.ifCond .gt off, 3)) (ht : (pc : Int) + off = (tgt : Int)) (kt : 0 < a → G X u v tgt L st ws) (kf : a = 0 → G X u v (pc + 3) L st ws) : G X u v pc L (.int (nI a) :: st) ws := g_if_gt O hdg ht (fun h => kt ((nI_lt0 ha1).mp h)) (fun h => kf (Nat.eq_zero_of_not_pos (fun h2 => h ((nI_lt0 ha1).mpr h2))))
theorem g_if_geN (O : Ok X l D z cc own Ts nL R ini) {a : Nat} (ha1 : a < 2147483648) {off : Int} {tgt : Nat} (hdg : decode cc pc = .ok (.ifCond .ge off, 3)) (ht : (pc : Int) + off = (tgt : Int)) (kt : G X u v tgt L st ws) : G X u v pc L (.int (nI a) :: st) ws := g_if_ge O hdg ht (fun h => kt) (fun h => absurd (nI_pos' ha1) h)
theorem g_if_ltN (O : Ok X l D z cc own Ts nL R ini) {a : Nat} (ha1 : a < 2147483648) {off : Int} {tgt : Nat} (hdg : decode cc pc = .ok (.ifCond .lt off, 3)) (ht : (pc : Int) + off = (tgt : Int)) (kf : G X u v (pc + 3) L st ws) : G X u v pc L (.int (nI a) :: st) ws := g_if_lt O hdg ht (fun h => absurd h (nI_pos ha1)) (fun h => kf)
def bB (b : Bool) : Int32 := if b then 1 else 0
theorem bB_0 (b : Bool) : bB b = 0 ↔ b = false := by cases b <;> simp [bB]
theorem bB_1 (b : Bool) : bB b = 1 ↔ b = true := by cases b <;> simp [bB]
theorem bB_n (b : Bool) : vp_nar .boolean (bB b) = bB b := by cases b <;> decide +kernel
theorem bB_nn (b : Bool) : narrow .boolean (.int (bB b)) = .int (bB b) := by cases b <;> decide +kernel
theorem bB_fit (b : Bool) : fits .boolean (.int (bB b)) = true := by cases b <;> decide +kernel
theorem g_if_eqB (O : Ok X l D z cc own Ts nL R ini) {b : Bool} {off : Int} {tgt : Nat} (hdg : decode cc pc = .ok (.ifCond .eq off, 3)) (ht : (pc : Int) + off = (tgt : Int)) (kt : b = false → G X u v tgt L st ws) (kf : b = true → G X u v (pc + 3) L st ws) : G X u v pc L (.int (bB b) :: st) ws := g_if_eq O hdg ht (fun h => kt ((bB_0 b).mp h)) (fun h => kf (by cases b <;> simp_all [bB]))
theorem g_if_neB (O : Ok X l D z cc own Ts nL R ini) {b : Bool} {off : Int} {tgt : Nat} (hdg : decode cc pc = .ok (.ifCond .ne off, 3)) (ht : (pc : Int) + off = (tgt : Int)) (kt : b = true → G X u v tgt L st ws) (kf : b = false → G X u v (pc + 3) L st ws) : G X u v pc L (.int (bB b) :: st) ws := g_if_ne O hdg ht (fun h => kt (by cases b <;> simp_all [bB])) (fun h => kf ((bB_0 b).mp h))
theorem g_iald (O : Ok X l D z cc own Ts nL R ini) {a n : Nat} {f : Nat → Int32} {i : Int32} (q0 : Nat) (ha : ws[q0]? = some (a, .inl ((TY D)[0].1, n, .inl f))) (hi : vp_in i n) (hdg : decode cc pc = .ok (.iaload, 1)) (kk : G X u v (pc + 1) L (.int (f i.toNatClampNeg) :: st) ws) : G X u v pc L (.int i :: .ref a :: st) ws := by
  obtain ⟨p, l', e, R', s, m, args, below, meth, c, Q, nL', D', z', A⟩ := X
  obtain ⟨hx, hb, hml, hown, hts, hE, hA, hZ, hlk, rfl, rfl, rfl, rfl, rfl, hin⟩ := O
  intro ls H locs hL hP hD hS
  exact va_iald hx hb hE.1 hP q0 0 ha rfl hi hdg (kk ls H locs hL hP hD hS)
theorem g_ialdN (O : Ok X l D z cc own Ts nL R ini) {a n : Nat} {f : Nat → Int32} {i : Nat} (q0 : Nat) (ha : ws[q0]? = some (a, .inl ((TY D)[0].1, n, .inl f))) (hi : i < n) (hn : n < 2147483648) (hdg : decode cc pc = .ok (.iaload, 1)) (kk : G X u v (pc + 1) L (.int (f i) :: st) ws) : G X u v pc L (.int (nI i) :: .ref a :: st) ws := g_iald O q0 ha (vp_in_nI hi hn) hdg (by rw [nI_clamp (Nat.lt_trans hi hn)]; exact kk)
theorem g_zald (O : Ok X l D z cc own Ts nL R ini) {a n : Nat} {f : Nat → Int32} {i : Int32} (q0 : Nat) (ha : ws[q0]? = some (a, .inl ((TY D)[1].1, n, .inl f))) (hi : vp_in i n) (hdg : decode cc pc = .ok (.baload, 1)) (kk : G X u v (pc + 1) L (.int (f i.toNatClampNeg) :: st) ws) : G X u v pc L (.int i :: .ref a :: st) ws := by
  obtain ⟨p, l', e, R', s, m, args, below, meth, c, Q, nL', D', z', A⟩ := X
  obtain ⟨hx, hb, hml, hown, hts, hE, hA, hZ, hlk, rfl, rfl, rfl, rfl, rfl, hin⟩ := O
  intro ls H locs hL hP hD hS
  exact va_zald hx hb hE.1 hP q0 1 ha rfl hi hdg (kk ls H locs hL hP hD hS)
theorem g_zaldN (O : Ok X l D z cc own Ts nL R ini) {a n : Nat} {f : Nat → Int32} {i : Nat} (q0 : Nat) (ha : ws[q0]? = some (a, .inl ((TY D)[1].1, n, .inl f))) (hi : i < n) (hn : n < 2147483648) (hdg : decode cc pc = .ok (.baload, 1)) (kk : G X u v (pc + 1) L (.int (f i) :: st) ws) : G X u v pc L (.int (nI i) :: .ref a :: st) ws := g_zald O q0 ha (vp_in_nI hi hn) hdg (by rw [nI_clamp (Nat.lt_trans hi hn)]; exact kk)
theorem g_cald (O : Ok X l D z cc own Ts nL R ini) {a n : Nat} {f : Nat → Int32} {i : Int32} (q0 : Nat) (ha : ws[q0]? = some (a, .inl ((TY D)[2].1, n, .inl f))) (hi : vp_in i n) (hdg : decode cc pc = .ok (.caload, 1)) (kk : G X u v (pc + 1) L (.int (f i.toNatClampNeg) :: st) ws) : G X u v pc L (.int i :: .ref a :: st) ws := by
  obtain ⟨p, l', e, R', s, m, args, below, meth, c, Q, nL', D', z', A⟩ := X
  obtain ⟨hx, hb, hml, hown, hts, hE, hA, hZ, hlk, rfl, rfl, rfl, rfl, rfl, hin⟩ := O
  intro ls H locs hL hP hD hS
  exact va_cald hx hb hE.1 hP q0 2 ha rfl hi hdg (kk ls H locs hL hP hD hS)
theorem g_caldN (O : Ok X l D z cc own Ts nL R ini) {a n : Nat} {f : Nat → Int32} {i : Nat} (q0 : Nat) (ha : ws[q0]? = some (a, .inl ((TY D)[2].1, n, .inl f))) (hi : i < n) (hn : n < 2147483648) (hdg : decode cc pc = .ok (.caload, 1)) (kk : G X u v (pc + 1) L (.int (f i) :: st) ws) : G X u v pc L (.int (nI i) :: .ref a :: st) ws := g_cald O q0 ha (vp_in_nI hi hn) hdg (by rw [nI_clamp (Nat.lt_trans hi hn)]; exact kk)
theorem f_in {x y : Value} (h : x = y) : y = x := h.symm
theorem g_iast (O : Ok X l D z cc own Ts nL R ini) {a n : Nat} {f f' : Nat → Int32} {i x : Int32} (q0 : Nat) (ha : ws[q0]? = some (a, .inl ((TY D)[0].1, n, .inl f))) (hi : vp_in i n) (hdg : decode cc pc = .ok (.iastore, 1)) (hf : upd f i.toNatClampNeg x = f') (hw : ws.set q0 (a, .inl ((TY D)[0].1, n, .inl f')) = ws') (kk : G X u v (pc + 1) L st ws') : G X u v pc L (.int x :: .int i :: .ref a :: st) ws := by
  obtain ⟨p, l', e, R', s, m, args, below, meth, c, Q, nL', D', z', A⟩ := X
  obtain ⟨hx, hb, hml, hown, hts, hE, hA, hZ, hlk, rfl, rfl, rfl, rfl, rfl, hin⟩ := O
  intro ls H locs hL hP hD hS
  subst hw
  subst hf
  exact va_iast hx hb hE.1 hP hD hS q0 0 ha rfl hi hdg (fun H1 locs1 hP1 hD1 hS1 => kk ls H1 locs1 hL hP1 hD1 hS1)
theorem g_iastN (O : Ok X l D z cc own Ts nL R ini) {a n : Nat} {f f' : Nat → Int32} {i : Nat} {x : Int32} (q0 : Nat) (ha : ws[q0]? = some (a, .inl ((TY D)[0].1, n, .inl f))) (hi : i < n) (hn : n < 2147483648) (hdg : decode cc pc = .ok (.iastore, 1)) (hf : upd f i x = f') (hw : ws.set q0 (a, .inl ((TY D)[0].1, n, .inl f')) = ws') (kk : G X u v (pc + 1) L st ws') : G X u v pc L (.int x :: .int (nI i) :: .ref a :: st) ws := g_iast O q0 ha (vp_in_nI hi hn) hdg (by rw [nI_clamp (Nat.lt_trans hi hn)]; exact hf) hw kk
theorem g_zast (O : Ok X l D z cc own Ts nL R ini) {a n : Nat} {f f' : Nat → Int32} {i x : Int32} (q0 : Nat) (ha : ws[q0]? = some (a, .inl ((TY D)[1].1, n, .inl f))) (hi : vp_in i n) (hdg : decode cc pc = .ok (.bastore, 1)) (hf : upd f i.toNatClampNeg (vp_nar .boolean x) = f') (hw : ws.set q0 (a, .inl ((TY D)[1].1, n, .inl f')) = ws') (kk : G X u v (pc + 1) L st ws') : G X u v pc L (.int x :: .int i :: .ref a :: st) ws := by
  obtain ⟨p, l', e, R', s, m, args, below, meth, c, Q, nL', D', z', A⟩ := X
  obtain ⟨hx, hb, hml, hown, hts, hE, hA, hZ, hlk, rfl, rfl, rfl, rfl, rfl, hin⟩ := O
  intro ls H locs hL hP hD hS
  subst hw
  subst hf
  exact va_zast hx hb hE.1 hP hD hS q0 1 ha rfl hi hdg (fun H1 locs1 hP1 hD1 hS1 => kk ls H1 locs1 hL hP1 hD1 hS1)
theorem g_zastN (O : Ok X l D z cc own Ts nL R ini) {a n : Nat} {f f' : Nat → Int32} {i : Nat} {x : Int32} (q0 : Nat) (ha : ws[q0]? = some (a, .inl ((TY D)[1].1, n, .inl f))) (hi : i < n) (hn : n < 2147483648) (hdg : decode cc pc = .ok (.bastore, 1)) (hf : upd f i (vp_nar .boolean x) = f') (hw : ws.set q0 (a, .inl ((TY D)[1].1, n, .inl f')) = ws') (kk : G X u v (pc + 1) L st ws') : G X u v pc L (.int x :: .int (nI i) :: .ref a :: st) ws := g_zast O q0 ha (vp_in_nI hi hn) hdg (by rw [nI_clamp (Nat.lt_trans hi hn)]; exact hf) hw kk
theorem g_cast (O : Ok X l D z cc own Ts nL R ini) {a n : Nat} {f f' : Nat → Int32} {i x : Int32} (q0 : Nat) (ha : ws[q0]? = some (a, .inl ((TY D)[2].1, n, .inl f))) (hi : vp_in i n) (hdg : decode cc pc = .ok (.castore, 1)) (hf : upd f i.toNatClampNeg (vp_nar .char x) = f') (hw : ws.set q0 (a, .inl ((TY D)[2].1, n, .inl f')) = ws') (kk : G X u v (pc + 1) L st ws') : G X u v pc L (.int x :: .int i :: .ref a :: st) ws := by
  obtain ⟨p, l', e, R', s, m, args, below, meth, c, Q, nL', D', z', A⟩ := X
  obtain ⟨hx, hb, hml, hown, hts, hE, hA, hZ, hlk, rfl, rfl, rfl, rfl, rfl, hin⟩ := O
  intro ls H locs hL hP hD hS
  subst hw
  subst hf
  exact va_cast hx hb hE.1 hP hD hS q0 2 ha rfl hi hdg (fun H1 locs1 hP1 hD1 hS1 => kk ls H1 locs1 hL hP1 hD1 hS1)
theorem g_castN (O : Ok X l D z cc own Ts nL R ini) {a n : Nat} {f f' : Nat → Int32} {i : Nat} {x : Int32} (q0 : Nat) (ha : ws[q0]? = some (a, .inl ((TY D)[2].1, n, .inl f))) (hi : i < n) (hn : n < 2147483648) (hdg : decode cc pc = .ok (.castore, 1)) (hf : upd f i (vp_nar .char x) = f') (hw : ws.set q0 (a, .inl ((TY D)[2].1, n, .inl f')) = ws') (kk : G X u v (pc + 1) L st ws') : G X u v pc L (.int x :: .int (nI i) :: .ref a :: st) ws := g_cast O q0 ha (vp_in_nI hi hn) hdg (by rw [nI_clamp (Nat.lt_trans hi hn)]; exact hf) hw kk
theorem g_get (O : Ok X l D z cc own Ts nL R ini) {C : String} {T : u_T} {N ci index a : Nat} {fs : List Value} {w : Value} (hi : ∀ w ∈ u_ws C T N, w ∈ Ts) (q0 : Nat) (he : ws[q0]? = some (a, .inr (ci, fs))) (hc : vwCl[ci]? = some (C, T, N)) (k : Nat) (hk : k < N) (hlink : Cond.fieldLink own index (T k).1 (T k).2.1 (T k).2.2.1 ∈ Ts) (hv : fs[k]? = some w) (hdg : decode cc pc = .ok (.getfield index, 3)) (kk : G X u v (pc + 3) L (w :: st) ws) : G X u v pc L (.ref a :: st) ws := by
  obtain ⟨p, l', e, R', s, m, args, below, meth, c, Q, nL', D', z', A⟩ := X
  obtain ⟨hx, hb, hml, hown, hts, hE, hA, hZ, hlk, rfl, rfl, rfl, rfl, rfl, hin⟩ := O
  intro ls H locs hL hP hD hS
  exact va_get hx hb hts hi hown hE.1 hP q0 he hc k hk (hts _ hlink) (fun _ h => h) hv hdg (kk ls H locs hL hP hD hS)
theorem g_getN (O : Ok X l D z cc own Ts nL R ini) {C : String} {T : u_T} {N ci index a : Nat} {host : String} {fs : List Value} {w : Value} (hi : ∀ w ∈ u_ws C T N, w ∈ Ts) (q0 : Nat) (he : ws[q0]? = some (a, .inr (ci, fs))) (hc : vwCl[ci]? = some (C, T, N)) (k : Nat) (hk : k < N) (j : Nat) (hlink : NWf[j]? = some (own, index, (T k).1, (T k).2.1, (T k).2.2.1, host)) (hv : fs[k]? = some w) (hdg : decode cc pc = .ok (.getfield index, 3)) (kk : G X u v (pc + 3) L (w :: st) ws) : G X u v pc L (.ref a :: st) ws := by
  obtain ⟨p, l', e, R', s, m, args, below, meth, c, Q, nL', D', z', A⟩ := X
  obtain ⟨hx, hb, hml, hown, hts, hE, hA, hZ, hlk, rfl, rfl, rfl, rfl, rfl, hin⟩ := O
  intro ls H locs hL hP hD hS
  exact va_getN hx hb hts hi hown hE.1 hP q0 he hc k hk (va_Nw.use rfl (hE.2.1 _ (List.mem_of_getElem? hlink))) (fun _ h => h) hv hdg (kk ls H locs hL hP hD hS)
theorem g_put (O : Ok X l D z cc own Ts nL R ini) {C : String} {T : u_T} {N ci index a : Nat} {fs : List Value} {w : Value} {ty : FieldType} (hi : ∀ w ∈ u_ws C T N, w ∈ Ts) (ty0 : Nat → FieldType) (hty : ∀ k, k < N → parseFieldDescriptor (T k).2.2.1 = some (ty0 k)) (hnm : ∀ a, a < N → ∀ b, b < N → a ≠ b → (T a).2.1 ≠ (T b).2.1) (q0 : Nat) (he : ws[q0]? = some (a, .inr (ci, fs))) (hc : vwCl[ci]? = some (C, T, N)) (k : Nat) (hk : k < N) (hlink : Cond.fieldLink own index (T k).1 (T k).2.1 (T k).2.2.1 ∈ Ts) (hfin : (T k).2.2.2 = false) (hd : parseFieldDescriptor (T k).2.2.1 = some ty) (hn : narrow ty w = w) (hfit : fits ty w = true) (hl : k < fs.length) (hdg : decode cc pc = .ok (.putfield index, 3)) (hw : ws.set q0 (a, .inr (ci, fs.set k w)) = ws') (kk : G X u v (pc + 3) L st ws') : G X u v pc L (w :: .ref a :: st) ws := by
  obtain ⟨p, l', e, R', s, m, args, below, meth, c, Q, nL', D', z', A⟩ := X
  obtain ⟨hx, hb, hml, hown, hts, hE, hA, hZ, hlk, rfl, rfl, rfl, rfl, rfl, hin⟩ := O
  intro ls H locs hL hP hD hS
  subst hw
  exact va_put hx hb hts hi ty0 hty hnm hown hE.1 hP hD hS q0 he hc k hk (hts _ hlink) (fun _ h => h) hfin hd hn hfit hl hdg (fun H1 locs1 hP1 hD1 hS1 => kk ls H1 locs1 hL hP1 hD1 hS1)
theorem g_putN (O : Ok X l D z cc own Ts nL R ini) {C : String} {T : u_T} {N ci index a : Nat} {host : String} {fs : List Value} {w : Value} {ty : FieldType} (hi : ∀ w ∈ u_ws C T N, w ∈ Ts) (ty0 : Nat → FieldType) (hty : ∀ k, k < N → parseFieldDescriptor (T k).2.2.1 = some (ty0 k)) (hnm : ∀ a, a < N → ∀ b, b < N → a ≠ b → (T a).2.1 ≠ (T b).2.1) (q0 : Nat) (he : ws[q0]? = some (a, .inr (ci, fs))) (hc : vwCl[ci]? = some (C, T, N)) (k : Nat) (hk : k < N) (j : Nat) (hlink : NWf[j]? = some (own, index, (T k).1, (T k).2.1, (T k).2.2.1, host)) (hfin : (T k).2.2.2 = false) (hd : parseFieldDescriptor (T k).2.2.1 = some ty) (hn : narrow ty w = w) (hfit : fits ty w = true) (hl : k < fs.length) (hdg : decode cc pc = .ok (.putfield index, 3)) (hw : ws.set q0 (a, .inr (ci, fs.set k w)) = ws') (kk : G X u v (pc + 3) L st ws') : G X u v pc L (w :: .ref a :: st) ws := by
  obtain ⟨p, l', e, R', s, m, args, below, meth, c, Q, nL', D', z', A⟩ := X
  obtain ⟨hx, hb, hml, hown, hts, hE, hA, hZ, hlk, rfl, rfl, rfl, rfl, rfl, hin⟩ := O
  intro ls H locs hL hP hD hS
  subst hw
  exact va_putN hx hb hts hi ty0 hty hnm hown hE.1 hP hD hS q0 he hc k hk (va_Nw.use rfl (hE.2.1 _ (List.mem_of_getElem? hlink))) (fun _ h => h) hfin hd hn hfit hl hdg (fun H1 locs1 hP1 hD1 hS1 => kk ls H1 locs1 hL hP1 hD1 hS1)
theorem g_putF (O : Ok X l D z cc own Ts nL R ini) {C : String} {T : u_T} {N ci index a : Nat} {fs : List Value} {w : Value} {ty : FieldType} (hi : ∀ w ∈ u_ws C T N, w ∈ Ts) (ty0 : Nat → FieldType) (hty : ∀ k, k < N → parseFieldDescriptor (T k).2.2.1 = some (ty0 k)) (hnm : ∀ a, a < N → ∀ b, b < N → a ≠ b → (T a).2.1 ≠ (T b).2.1) (q0 : Nat) (he : ws[q0]? = some (a, .inr (ci, fs))) (hc : vwCl[ci]? = some (C, T, N)) (k : Nat) (hk : k < N) (hlink : Cond.fieldLink own index (T k).1 (T k).2.1 (T k).2.2.1 ∈ Ts) (hfin : (T k).2.2.2 = true) (hdecl : (T k).1 = own) (hini : ini = true) (hd : parseFieldDescriptor (T k).2.2.1 = some ty) (hn : narrow ty w = w) (hfit : fits ty w = true) (hl : k < fs.length) (hdg : decode cc pc = .ok (.putfield index, 3)) (hw : ws.set q0 (a, .inr (ci, fs.set k w)) = ws') (kk : G X u v (pc + 3) L st ws') : G X u v pc L (w :: .ref a :: st) ws := by
  obtain ⟨p, l', e, R', s, m, args, below, meth, c, Q, nL', D', z', A⟩ := X
  obtain ⟨hx, hb, hml, hown, hts, hE, hA, hZ, hlk, rfl, rfl, rfl, rfl, rfl, hin⟩ := O
  intro ls H locs hL hP hD hS
  subst hw
  exact va_putF hx hb hts hi ty0 hty hnm hown hE.1 hP hD hS q0 he hc k hk (hts _ hlink) (fun _ h => h) hfin (hin hini) hdecl hd hn hfit hl hdg (fun H1 locs1 hP1 hD1 hS1 => kk ls H1 locs1 hL hP1 hD1 hS1)
theorem g_new (O : Ok X l D z cc own Ts nL R ini) {C : String} {T : u_T} {N ci index : Nat} {fs : List Value} (hi : ∀ w ∈ u_ws C T N, w ∈ Ts) (ty : Nat → FieldType) (hty : ∀ k, k < N → parseFieldDescriptor (T k).2.2.1 = some (ty k)) (hcl : Cond.classLink own index C ∈ Ts) (hinst : Cond.instantiable C N ∈ Ts) (hini : Cond.initialized C ∈ Ts) (hc : vwCl[ci]? = some (C, T, N)) (hfs : ∀ j, j < N → defaultValue (ty j) = vp_V fs j) (hcells : u + 1 ≤ R.cells) (hslots : v + N ≤ R.slots) (hdg : decode cc pc = .ok (.new index, 3)) (kk : ∀ q : Nat, G X (u + 1) (v + N) (pc + 3) L (.ref q :: st) (ws ++ [(q, .inr (ci, fs))])) : G X u v pc L st ws := by
  obtain ⟨p, l', e, R', s, m, args, below, meth, c, Q, nL', D', z', A⟩ := X
  obtain ⟨hx, hb, hml, hown, hts, hE, hA, hZ, hlk, rfl, rfl, rfl, rfl, rfl, hin⟩ := O
  intro ls H locs hL hP hD hS
  exact va_new hx hb hts hi ty hty hown (hts _ hcl) (hts _ hinst) (hts _ hini) hE.1 hP hD hS hA hc hfs hcells hslots hdg (fun q H1 hP1 hD1 hS1 => kk q ls H1 locs hL hP1 hD1 hS1)
theorem TY_one {D : va_G} {s : State} {cA : ClassId} {ty : FieldType} {k : Nat} {c : ClassId} (hK : va_K D vwCl (TY D ++ [(cA, ty)]) s) (hk : (TY D)[k]? = some (c, ty)) (hp : ∀ C, ty ≠ .object C) : cA = c := by
  have h1 := (hK.2 4 (cA, ty) rfl).2
  have h2 := (hK.2 k (c, ty) (by rw [List.getElem?_append_left (List.getElem?_eq_some_iff.mp hk).1]; exact hk)).2
  cases ty with
  | object C => exact absurd rfl (hp C)
  | _ => exact Option.some.inj (h1.symm.trans h2)
theorem g_newI (O : Ok X l D z cc own Ts nL R ini) {n : Int32} {N : Nat} (harr : Cond.arrayClass .int ∈ Ts) (hn : ¬ n < 0) (hN : n.toNatClampNeg = N) (hbytes : N * componentBytes .int ≤ 536870912) (hcells : u + 1 ≤ R.cells) (hslots : v + N ≤ R.slots) (hdg : decode cc pc = .ok (.newarray .int, 2)) (kk : ∀ q : Nat, G X (u + 1) (v + N) (pc + 2) L (.ref q :: st) (ws ++ [(q, .inl ((TY D)[0].1, N, .inl (fun _ => 0)))])) : G X u v pc L (.int n :: st) ws := by
  obtain ⟨p, l', e, R', s, m, args, below, meth, c, Q, nL', D', z', A⟩ := X
  obtain ⟨hx, hb, hml, hown, hts, hE, hA, hZ, hlk, rfl, rfl, rfl, rfl, rfl, hin⟩ := O
  intro ls H locs hL hP hD hS
  refine va_newa (atype := .int) (ty := .int) (a0 := (N, .inl (fun _ => 0))) hx hb (hts _ harr) rfl hE.1 hP hD hS hA (fun cA => rfl) hn hN hbytes hcells hslots hdg (fun q cA H1 hK1 hP1 hD1 hS1 => ?_)
  have hc := TY_one (k := 0) hK1 rfl (fun C h => by cases h)
  subst hc
  exact kk q ls H1 locs hL hP1 hD1 hS1
theorem g_newZ (O : Ok X l D z cc own Ts nL R ini) {n : Int32} {N : Nat} (harr : Cond.arrayClass .boolean ∈ Ts) (hn : ¬ n < 0) (hN : n.toNatClampNeg = N) (hbytes : N * componentBytes .boolean ≤ 536870912) (hcells : u + 1 ≤ R.cells) (hslots : v + N ≤ R.slots) (hdg : decode cc pc = .ok (.newarray .boolean, 2)) (kk : ∀ q : Nat, G X (u + 1) (v + N) (pc + 2) L (.ref q :: st) (ws ++ [(q, .inl ((TY D)[1].1, N, .inl (fun _ => 0)))])) : G X u v pc L (.int n :: st) ws := by
  obtain ⟨p, l', e, R', s, m, args, below, meth, c, Q, nL', D', z', A⟩ := X
  obtain ⟨hx, hb, hml, hown, hts, hE, hA, hZ, hlk, rfl, rfl, rfl, rfl, rfl, hin⟩ := O
  intro ls H locs hL hP hD hS
  refine va_newa (atype := .boolean) (ty := .boolean) (a0 := (N, .inl (fun _ => 0))) hx hb (hts _ harr) rfl hE.1 hP hD hS hA (fun cA => rfl) hn hN hbytes hcells hslots hdg (fun q cA H1 hK1 hP1 hD1 hS1 => ?_)
  have hc := TY_one (k := 1) hK1 rfl (fun C h => by cases h)
  subst hc
  exact kk q ls H1 locs hL hP1 hD1 hS1
theorem g_newC (O : Ok X l D z cc own Ts nL R ini) {n : Int32} {N : Nat} (harr : Cond.arrayClass .char ∈ Ts) (hn : ¬ n < 0) (hN : n.toNatClampNeg = N) (hbytes : N * componentBytes .char ≤ 536870912) (hcells : u + 1 ≤ R.cells) (hslots : v + N ≤ R.slots) (hdg : decode cc pc = .ok (.newarray .char, 2)) (kk : ∀ q : Nat, G X (u + 1) (v + N) (pc + 2) L (.ref q :: st) (ws ++ [(q, .inl ((TY D)[2].1, N, .inl (fun _ => 0)))])) : G X u v pc L (.int n :: st) ws := by
  obtain ⟨p, l', e, R', s, m, args, below, meth, c, Q, nL', D', z', A⟩ := X
  obtain ⟨hx, hb, hml, hown, hts, hE, hA, hZ, hlk, rfl, rfl, rfl, rfl, rfl, hin⟩ := O
  intro ls H locs hL hP hD hS
  refine va_newa (atype := .char) (ty := .char) (a0 := (N, .inl (fun _ => 0))) hx hb (hts _ harr) rfl hE.1 hP hD hS hA (fun cA => rfl) hn hN hbytes hcells hslots hdg (fun q cA H1 hK1 hP1 hD1 hS1 => ?_)
  have hc := TY_one (k := 2) hK1 rfl (fun C h => by cases h)
  subst hc
  exact kk q ls H1 locs hL hP1 hD1 hS1
end GR
end
section
/-! the packed walk: contracts, calls, ends -/
theorem CP.blind {D : va_G} {z : Nat × Nat × Nat} {av : List Value} {win : va_W} {sz : Nat} : FrameBlind (CP D z av win sz) := by
  intro a U g mk h
  obtain ⟨h1, h2, h3, h4, h5, h6⟩ := h
  exact ⟨h1, h2, h3, h4.same rfl, h5, h6.moved (u := U) (U := U.calling g mk a) (Vm.Alike.refl U.vm)⟩
theorem fm_of {ws ws' : va_W} {is : List Nat} (hs : is.map (fun i => ws[i]?) = ws'.map some) : is.filterMap (fun i => ws[i]?) = ws' := by
  have h1 : (is.map (fun i => ws[i]?)).filterMap id = (ws'.map some).filterMap id := by rw [hs]
  rw [List.filterMap_map, List.filterMap_map] at h1
  simpa using h1
section GC
variable {X : Fx} {l : Launch} {D : va_G} {z : Nat × Nat × Nat} {cc : ByteArray} {own : String} {Ts : List Cond} {nL : Nat} {R : Room} {ini : Bool} {u v pc : Nat} {L L' : List (Nat × Value)} {st stk : List Value} {ws ws' win wr : va_W} {y : MethodName} {wsy wsy' : List Cond} {rm : Room} {b : Nat} {As : List Value} {post : Option Value → va_W → Prop} {mc ms maxL index : Nat} {bytes : ByteArray} {ret : Option FieldType}
theorem g_callV (O : Ok X l D z cc own Ts nL R ini) (hM : CM l y wsy rm D z (.ref b :: As) win post mc ms) (hG : GoodIn Ts (wsV own index y.cls y wsy)) (hw : wsy = Cond.code y bytes maxL ret :: wsy') (hrc : rm.cells = mc) (hrs : rm.slots = ms) (n : Nat) (hd : y.cls ≠ "java/lang/invoke/MethodHandle" ∧ y.cls ≠ "java/lang/invoke/VarHandle" ∧ (parseMethodDescriptor y.desc).map (fun d => d.parameters.length) = some n) (hR : rm.frames + 1 ≤ R.frames ∧ 8 + (maxL + 11) + rm.locals ≤ R.locals) (hcs : u + mc ≤ R.cells ∧ v + ms ≤ R.slots) {ci q0 : Nat} {rC : vw_C} {fs : List Value} (he : win[q0]? = some (b, .inr (ci, fs))) (hc : vwCl[ci]? = some rC) (hcr : rC.1 = y.cls)
    (isC isR : List Nat) (hC : isC.map (fun i => ws[i]?) = win.map some) (hnC : va_nd isC = true) (hRr : isR.map (fun i => ws[i]?) = wr.map some) (hnR : va_nd isR = true) (hdis : ∀ i ∈ isR, i ∉ isC) (hAs : As.length = n) (hstk : stk = As.reverse ++ .ref b :: st) (hW : (st.map fun v => v.category).sum ≤ 8) (hdg : decode cc pc = .ok (.invokevirtual index, 3))
    (kk : ∀ (r : Option Value) (w : va_W), post r w → G X (u + mc) (v + ms) (pc + 3) L (r.toList ++ st) (wr ++ w)) : G X u v pc L stk ws := by
  obtain ⟨p, l', e, R', s, m, args, below, meth, c, Q, nL', D', z', A⟩ := X
  obtain ⟨hx, hb, hml, hown, hts, hE, hA, hZ, hlk, rfl, rfl, rfl, rfl, rfl, hin⟩ := O
  intro ls H locs hL hP hD hS
  have hPc := hP.sub isC (fm_of hC)
  have hDc := hD.sub isC hnC hC
  have hFc := va_free hD hS hA isC hC
  have hZH := (hZ.kept hS.2.1).narrow hFc
  have run := va_runV (e := e) (below := below) (meth := meth) (locs := locs) (As := As) (rest := st) (C := y.cls) ⟨hx, hb, hml, hown, hts⟩ (hM H.size) (cwV n hts hG hw hrc hrs ⟨rfl, hd⟩ hR) ⟨CP.blind, hcr ▸ va_recv hE.1 hPc hc he, fun U hU hW => ⟨rfl, by rw [hU], by rw [hU]; exact hPc, EN.warm hW hE, hDc.weaken (fun _ _ _ _ => trivial), by rw [hU]; exact hZH.moved hW.alike⟩⟩ rfl hAs hL.1 hstk (lv_room hW) hdg hcs
  intro T hT XS
  obtain ⟨r, st₀, t, T', L2, h0, X', hLf, e1, e2, ⟨⟨r', w1, hoc, hpost, hP1, hD1⟩, hz, hk⟩, stp⟩ := run T hT XS
  cases hoc
  rw [h0] at hz hk
  obtain ⟨hP2, hD2⟩ := va_join hP hD isC isR hC hRr hnR hdis hk hFc hP1 hD1
  obtain ⟨t2, a1, b1⟩ := kk r w1 hpost ls t.heap (locs ++ L2) hL hP2 hD2 ⟨Nat.le_trans hS.1 hz, fun q h1 h2 => by rw [hk q (Nat.lt_of_lt_of_le h1 hS.1) (fun g => h2 (hFc q g))]; exact hS.2.1 q h1 h2, fun q hq => by
      rcases List.mem_append.mp hq with h | h
      · exact hS.2.2 q h
      · exact hFc _ (hLf q h)⟩ T' e1 X'
  exact ⟨t2, stp t2 a1, b1⟩
theorem g_callS (O : Ok X l D z cc own Ts nL R ini) (hM : CM l y wsy rm D z (As) win post mc ms) (hG : GoodIn Ts (va_wsS own index y wsy)) (hw : wsy = Cond.code y bytes maxL ret :: wsy') (hrc : rm.cells = mc) (hrs : rm.slots = ms) (n : Nat) (hd : y.cls ≠ "java/lang/invoke/MethodHandle" ∧ y.cls ≠ "java/lang/invoke/VarHandle" ∧ (parseMethodDescriptor y.desc).map (fun d => d.parameters.length) = some n) (hR : rm.frames + 1 ≤ R.frames ∧ 8 + (maxL + 11) + rm.locals ≤ R.locals) (hcs : u + mc ≤ R.cells ∧ v + ms ≤ R.slots)
    (isC isR : List Nat) (hC : isC.map (fun i => ws[i]?) = win.map some) (hnC : va_nd isC = true) (hRr : isR.map (fun i => ws[i]?) = wr.map some) (hnR : va_nd isR = true) (hdis : ∀ i ∈ isR, i ∉ isC) (hAs : As.length = n) (hstk : stk = As.reverse ++ st) (hW : (st.map fun v => v.category).sum ≤ 8) (hdg : decode cc pc = .ok (.invokestatic index, 3))
    (kk : ∀ (r : Option Value) (w : va_W), post r w → G X (u + mc) (v + ms) (pc + 3) L (r.toList ++ st) (wr ++ w)) : G X u v pc L stk ws := by
  obtain ⟨p, l', e, R', s, m, args, below, meth, c, Q, nL', D', z', A⟩ := X
  obtain ⟨hx, hb, hml, hown, hts, hE, hA, hZ, hlk, rfl, rfl, rfl, rfl, rfl, hin⟩ := O
  intro ls H locs hL hP hD hS
  have hPc := hP.sub isC (fm_of hC)
  have hDc := hD.sub isC hnC hC
  have hFc := va_free hD hS hA isC hC
  have hZH := (hZ.kept hS.2.1).narrow hFc
  have run := va_runS (e := e) (below := below) (meth := meth) (locs := locs) (As := As) (rest := st) ⟨hx, hb, hml, hown, hts⟩ (hM H.size) (va_cwS n hts hG hw hrc hrs hd hR) ⟨CP.blind, fun U hU hW => ⟨rfl, by rw [hU], by rw [hU]; exact hPc, EN.warm hW hE, hDc.weaken (fun _ _ _ _ => trivial), by rw [hU]; exact hZH.moved hW.alike⟩⟩ rfl hAs hL.1 hstk (lv_room hW) hdg hcs
  intro T hT XS
  obtain ⟨r, st₀, t, T', L2, h0, X', hLf, e1, e2, ⟨⟨r', w1, hoc, hpost, hP1, hD1⟩, hz, hk⟩, stp⟩ := run T hT XS
  cases hoc
  rw [h0] at hz hk
  obtain ⟨hP2, hD2⟩ := va_join hP hD isC isR hC hRr hnR hdis hk hFc hP1 hD1
  obtain ⟨t2, a1, b1⟩ := kk r w1 hpost ls t.heap (locs ++ L2) hL hP2 hD2 ⟨Nat.le_trans hS.1 hz, fun q h1 h2 => by rw [hk q (Nat.lt_of_lt_of_le h1 hS.1) (fun g => h2 (hFc q g))]; exact hS.2.1 q h1 h2, fun q hq => by
      rcases List.mem_append.mp hq with h | h
      · exact hS.2.2 q h
      · exact hFc _ (hLf q h)⟩ T' e1 X'
  exact ⟨t2, stp t2 a1, b1⟩
theorem g_callI (O : Ok X l D z cc own Ts nL R ini) (hM : CM l y wsy rm D z (.ref b :: As) win post mc ms) (hG : GoodIn Ts wsy) (hw : wsy = Cond.code y bytes maxL none :: wsy') (hrc : rm.cells = mc) (hrs : rm.slots = ms) (n : Nat) (hd : y.cls ≠ "java/lang/invoke/MethodHandle" ∧ y.cls ≠ "java/lang/invoke/VarHandle" ∧ (parseMethodDescriptor y.desc).map (fun d => d.parameters.length) = some n) (hR : rm.frames + 1 ≤ R.frames ∧ 8 + (maxL + 11) + rm.locals ≤ R.locals) (hcs : u + mc ≤ R.cells ∧ v + ms ≤ R.slots) (hini : Cond.initialized y.cls ∈ Ts) (hl : Cond.methodLink own index y ∈ Ts) (hi : Cond.instanceMethod y ∈ Ts) (hy1 : y.name = "<init>")
    (isC isR : List Nat) (hC : isC.map (fun i => ws[i]?) = win.map some) (hnC : va_nd isC = true) (hRr : isR.map (fun i => ws[i]?) = wr.map some) (hnR : va_nd isR = true) (hdis : ∀ i ∈ isR, i ∉ isC) (hAs : As.length = n) (hstk : stk = As.reverse ++ .ref b :: st) (hW : (st.map fun v => v.category).sum ≤ 8) (hdg : decode cc pc = .ok (.invokespecial index, 3))
    (kk : ∀ (r : Option Value) (w : va_W), post r w → G X (u + mc) (v + ms) (pc + 3) L (r.toList ++ st) (wr ++ w)) : G X u v pc L stk ws := by
  obtain ⟨p, l', e, R', s, m, args, below, meth, c, Q, nL', D', z', A⟩ := X
  obtain ⟨hx, hb, hml, hown, hts, hE, hA, hZ, hlk, rfl, rfl, rfl, rfl, rfl, hin⟩ := O
  intro ls H locs hL hP hD hS
  have hPc := hP.sub isC (fm_of hC)
  have hDc := hD.sub isC hnC hC
  have hFc := va_free hD hS hA isC hC
  have hZH := (hZ.kept hS.2.1).narrow hFc
  have run := va_runI (e := e) (below := below) (meth := meth) (locs := locs) (As := As) (rest := st) (b := b) ⟨hx, hb, hml, hown, hts⟩ (hM H.size) (cwI n hts hG hw hrc hrs (hts _ hini) (hts _ hl) (hts _ hi) hy1 hd hR) ⟨CP.blind, fun U hU hW => ⟨rfl, by rw [hU], by rw [hU]; exact hPc, EN.warm hW hE, hDc.weaken (fun _ _ _ _ => trivial), by rw [hU]; exact hZH.moved hW.alike⟩⟩ rfl hAs hL.1 hstk (lv_room hW) hdg hcs
  intro T hT XS
  obtain ⟨r, st₀, t, T', L2, h0, X', hLf, e1, e2, ⟨⟨r', w1, hoc, hpost, hP1, hD1⟩, hz, hk⟩, stp⟩ := run T hT XS
  cases hoc
  rw [h0] at hz hk
  obtain ⟨hP2, hD2⟩ := va_join hP hD isC isR hC hRr hnR hdis hk hFc hP1 hD1
  obtain ⟨t2, a1, b1⟩ := kk r w1 hpost ls t.heap (locs ++ L2) hL hP2 hD2 ⟨Nat.le_trans hS.1 hz, fun q h1 h2 => by rw [hk q (Nat.lt_of_lt_of_le h1 hS.1) (fun g => h2 (hFc q g))]; exact hS.2.1 q h1 h2, fun q hq => by
      rcases List.mem_append.mp hq with h | h
      · exact hS.2.2 q h
      · exact hFc _ (hLf q h)⟩ T' e1 X'
  exact ⟨t2, stp t2 a1, b1⟩
theorem g_callSN (O : Ok X l D z cc own Ts nL R ini) (hM : CM l y wsy rm D z (As) win post mc ms) (hG : GoodIn Ts wsy) (hw : wsy = Cond.code y bytes maxL ret :: wsy') (hrc : rm.cells = mc) (hrs : rm.slots = ms) (n : Nat) (hd : y.cls ≠ "java/lang/invoke/MethodHandle" ∧ y.cls ≠ "java/lang/invoke/VarHandle" ∧ (parseMethodDescriptor y.desc).map (fun d => d.parameters.length) = some n) (hR : rm.frames + 1 ≤ R.frames ∧ 8 + (maxL + 11) + rm.locals ≤ R.locals) (hcs : u + mc ≤ R.cells ∧ v + ms ≤ R.slots) {host : String} (hini : Cond.initialized y.cls ∈ Ts) (j : Nat) (hl : NWm[j]? = some (own, index, y, host)) (hi : Cond.static y ∈ Ts)
    (isC isR : List Nat) (hC : isC.map (fun i => ws[i]?) = win.map some) (hnC : va_nd isC = true) (hRr : isR.map (fun i => ws[i]?) = wr.map some) (hnR : va_nd isR = true) (hdis : ∀ i ∈ isR, i ∉ isC) (hAs : As.length = n) (hstk : stk = As.reverse ++ st) (hW : (st.map fun v => v.category).sum ≤ 8) (hdg : decode cc pc = .ok (.invokestatic index, 3))
    (kk : ∀ (r : Option Value) (w : va_W), post r w → G X (u + mc) (v + ms) (pc + 3) L (r.toList ++ st) (wr ++ w)) : G X u v pc L stk ws := by
  obtain ⟨p, l', e, R', s, m, args, below, meth, c, Q, nL', D', z', A⟩ := X
  obtain ⟨hx, hb, hml, hown, hts, hE, hA, hZ, hlk, rfl, rfl, rfl, rfl, rfl, hin⟩ := O
  intro ls H locs hL hP hD hS
  have hPc := hP.sub isC (fm_of hC)
  have hDc := hD.sub isC hnC hC
  have hFc := va_free hD hS hA isC hC
  have hZH := (hZ.kept hS.2.1).narrow hFc
  have run := va_runSN (e := e) (below := below) (meth := meth) (locs := locs) (As := As) (rest := st) ⟨hx, hb, hml, hown, hts⟩ (hM H.size) ⟨va_cnB n hts hG hw hrc hrs (hE.2.2 _ (List.mem_of_getElem? hl)) (hts _ hini) hd hR, hts _ hi, trivial⟩ ⟨CP.blind, fun U hU hW => ⟨rfl, by rw [hU], by rw [hU]; exact hPc, EN.warm hW hE, hDc.weaken (fun _ _ _ _ => trivial), by rw [hU]; exact hZH.moved hW.alike⟩⟩ rfl hAs hL.1 hstk (lv_room hW) hdg hcs
  intro T hT XS
  obtain ⟨r, st₀, t, T', L2, h0, X', hLf, e1, e2, ⟨⟨r', w1, hoc, hpost, hP1, hD1⟩, hz, hk⟩, stp⟩ := run T hT XS
  cases hoc
  rw [h0] at hz hk
  obtain ⟨hP2, hD2⟩ := va_join hP hD isC isR hC hRr hnR hdis hk hFc hP1 hD1
  obtain ⟨t2, a1, b1⟩ := kk r w1 hpost ls t.heap (locs ++ L2) hL hP2 hD2 ⟨Nat.le_trans hS.1 hz, fun q h1 h2 => by rw [hk q (Nat.lt_of_lt_of_le h1 hS.1) (fun g => h2 (hFc q g))]; exact hS.2.1 q h1 h2, fun q hq => by
      rcases List.mem_append.mp hq with h | h
      · exact hS.2.2 q h
      · exact hFc _ (hLf q h)⟩ T' e1 X'
  exact ⟨t2, stp t2 a1, b1⟩
theorem g_callIN (O : Ok X l D z cc own Ts nL R ini) (hM : CM l y wsy rm D z (.ref b :: As) win post mc ms) (hG : GoodIn Ts wsy) (hw : wsy = Cond.code y bytes maxL none :: wsy') (hrc : rm.cells = mc) (hrs : rm.slots = ms) (n : Nat) (hd : y.cls ≠ "java/lang/invoke/MethodHandle" ∧ y.cls ≠ "java/lang/invoke/VarHandle" ∧ (parseMethodDescriptor y.desc).map (fun d => d.parameters.length) = some n) (hR : rm.frames + 1 ≤ R.frames ∧ 8 + (maxL + 11) + rm.locals ≤ R.locals) (hcs : u + mc ≤ R.cells ∧ v + ms ≤ R.slots) {host : String} (hini : Cond.initialized y.cls ∈ Ts) (j : Nat) (hl : NWm[j]? = some (own, index, y, host)) (hi : Cond.instanceMethod y ∈ Ts) (hy1 : y.name = "<init>")
    (isC isR : List Nat) (hC : isC.map (fun i => ws[i]?) = win.map some) (hnC : va_nd isC = true) (hRr : isR.map (fun i => ws[i]?) = wr.map some) (hnR : va_nd isR = true) (hdis : ∀ i ∈ isR, i ∉ isC) (hAs : As.length = n) (hstk : stk = As.reverse ++ .ref b :: st) (hW : (st.map fun v => v.category).sum ≤ 8) (hdg : decode cc pc = .ok (.invokespecial index, 3))
    (kk : ∀ (r : Option Value) (w : va_W), post r w → G X (u + mc) (v + ms) (pc + 3) L (r.toList ++ st) (wr ++ w)) : G X u v pc L stk ws := by
  obtain ⟨p, l', e, R', s, m, args, below, meth, c, Q, nL', D', z', A⟩ := X
  obtain ⟨hx, hb, hml, hown, hts, hE, hA, hZ, hlk, rfl, rfl, rfl, rfl, rfl, hin⟩ := O
  intro ls H locs hL hP hD hS
  have hPc := hP.sub isC (fm_of hC)
  have hDc := hD.sub isC hnC hC
  have hFc := va_free hD hS hA isC hC
  have hZH := (hZ.kept hS.2.1).narrow hFc
  have run := va_runIN (e := e) (below := below) (meth := meth) (locs := locs) (As := As) (rest := st) (b := b) ⟨hx, hb, hml, hown, hts⟩ (hM H.size) ⟨va_cnB n hts hG hw hrc hrs (hE.2.2 _ (List.mem_of_getElem? hl)) (hts _ hini) hd hR, hy1, hts _ hi⟩ ⟨CP.blind, fun U hU hW => ⟨rfl, by rw [hU], by rw [hU]; exact hPc, EN.warm hW hE, hDc.weaken (fun _ _ _ _ => trivial), by rw [hU]; exact hZH.moved hW.alike⟩⟩ rfl hAs hL.1 hstk (lv_room hW) hdg hcs
  intro T hT XS
  obtain ⟨r, st₀, t, T', L2, h0, X', hLf, e1, e2, ⟨⟨r', w1, hoc, hpost, hP1, hD1⟩, hz, hk⟩, stp⟩ := run T hT XS
  cases hoc
  rw [h0] at hz hk
  obtain ⟨hP2, hD2⟩ := va_join hP hD isC isR hC hRr hnR hdis hk hFc hP1 hD1
  obtain ⟨t2, a1, b1⟩ := kk r w1 hpost ls t.heap (locs ++ L2) hL hP2 hD2 ⟨Nat.le_trans hS.1 hz, fun q h1 h2 => by rw [hk q (Nat.lt_of_lt_of_le h1 hS.1) (fun g => h2 (hFc q g))]; exact hS.2.1 q h1 h2, fun q hq => by
      rcases List.mem_append.mp hq with h | h
      · exact hS.2.2 q h
      · exact hFc _ (hLf q h)⟩ T' e1 X'
  exact ⟨t2, stp t2 a1, b1⟩
theorem g_objInit (O : Ok X l D z cc own Ts nL R ini) {a : Nat} (hl : Cond.methodLink own index objectInit ∈ Ts) (hi : Cond.instanceMethod objectInit ∈ Ts) (hc : Cond.code objectInit ⟨#[0xb1]⟩ 1 none ∈ Ts) (hR : 1 ≤ R.frames) (hR2 : (st.map fun v => v.category).sum + 12 ≤ R.locals) (hdg : decode cc pc = .ok (.invokespecial index, 3)) (kk : G X u v (pc + 3) L st ws) : G X u v pc L (.ref a :: st) ws := by
  obtain ⟨p, l', e, R', s, m, args, below, meth, c, Q, nL', D', z', A⟩ := X
  obtain ⟨hx, hb, hml, hown, hts, hE, hA, hZ, hlk, rfl, rfl, rfl, rfl, rfl, hin⟩ := O
  intro ls H locs hL hP hD hS
  exact W.objInit hx hb hown (hts _ hl) (hts _ hi) (hts _ hc) rfl (by rw [hml]; exact hL.1) rfl hdg hR (by show 2 * 0 + _ + 12 ≤ _; omega) (kk ls H locs hL hP hD hS)
theorem g_max (O : Ok X l D z cc own Ts nL R ini) {x0 y0 : Int32} (hl : Cond.methodLink own index Lib.Math.max.name ∈ Ts) (hs : Cond.static Lib.Math.max.name ∈ Ts) (hi : Cond.initialized "java/lang/Math" ∈ Ts) (hc : Cond.code Lib.Math.max.name Lib.Math.max.code 2 (some .int) ∈ Ts) (hR : 1 ≤ R.frames) (hR2 : (st.map fun v => v.category).sum + 13 ≤ R.locals) (hcs : u ≤ R.cells ∧ v ≤ R.slots) (hdg : decode cc pc = .ok (.invokestatic index, 3)) (kk : G X u v (pc + 3) L (.int (if x0 < y0 then y0 else x0) :: st) ws) : G X u v pc L (.int y0 :: .int x0 :: st) ws := by
  obtain ⟨p, l', e, R', s, m, args, below, meth, c, Q, nL', D', z', A⟩ := X
  obtain ⟨hx, hb, hml, hown, hts, hE, hA, hZ, hlk, rfl, rfl, rfl, rfl, rfl, hin⟩ := O
  intro ls H locs hL hP hD hS
  exact va_mmax hx hb (hml.trans hL.1.symm) hown (hts _ hl) (hts _ hs) (hts _ hi) (hts _ hc) hR hR2 hcs.1 hcs.2 hdg (kk ls H locs hL hP hD hS)
theorem g_min (O : Ok X l D z cc own Ts nL R ini) {x0 y0 : Int32} (hl : Cond.methodLink own index Lib.Math.min.name ∈ Ts) (hs : Cond.static Lib.Math.min.name ∈ Ts) (hi : Cond.initialized "java/lang/Math" ∈ Ts) (hc : Cond.code Lib.Math.min.name Lib.Math.min.code 2 (some .int) ∈ Ts) (hR : 1 ≤ R.frames) (hR2 : (st.map fun v => v.category).sum + 13 ≤ R.locals) (hcs : u ≤ R.cells ∧ v ≤ R.slots) (hdg : decode cc pc = .ok (.invokestatic index, 3)) (kk : G X u v (pc + 3) L (.int (if y0 < x0 then y0 else x0) :: st) ws) : G X u v pc L (.int y0 :: .int x0 :: st) ws := by
  obtain ⟨p, l', e, R', s, m, args, below, meth, c, Q, nL', D', z', A⟩ := X
  obtain ⟨hx, hb, hml, hown, hts, hE, hA, hZ, hlk, rfl, rfl, rfl, rfl, rfl, hin⟩ := O
  intro ls H locs hL hP hD hS
  exact va_mmin hx hb (hml.trans hL.1.symm) hown (hts _ hl) (hts _ hs) (hts _ hi) (hts _ hc) hR hR2 hcs.1 hcs.2 hdg (kk ls H locs hL hP hD hS)
theorem g_abs (O : Ok X l D z cc own Ts nL R ini) {x0 : Int32} (hl : Cond.methodLink own index Lib.Math.abs.name ∈ Ts) (hs : Cond.static Lib.Math.abs.name ∈ Ts) (hi : Cond.initialized "java/lang/Math" ∈ Ts) (hc : Cond.code Lib.Math.abs.name Lib.Math.abs.code 1 (some .int) ∈ Ts) (hR : 1 ≤ R.frames) (hR2 : (st.map fun v => v.category).sum + 13 ≤ R.locals) (hcs : u ≤ R.cells ∧ v ≤ R.slots) (hdg : decode cc pc = .ok (.invokestatic index, 3)) (kk : G X u v (pc + 3) L (.int (if 0 ≤ x0 then x0 else 0 - x0) :: st) ws) : G X u v pc L (.int x0 :: st) ws := by
  obtain ⟨p, l', e, R', s, m, args, below, meth, c, Q, nL', D', z', A⟩ := X
  obtain ⟨hx, hb, hml, hown, hts, hE, hA, hZ, hlk, rfl, rfl, rfl, rfl, rfl, hin⟩ := O
  intro ls H locs hL hP hD hS
  exact va_mabs hx hb (hml.trans hL.1.symm) hown (hts _ hl) (hts _ hs) (hts _ hi) (hts _ hc) hR hR2 hcs.1 hcs.2 hdg (kk ls H locs hL hP hD hS)
theorem g_copyI (O : Ok X l D z cc own Ts nL R ini) {a a0 n0 n1 : Nat} {f g f' : Nat → Int32} {sp dp n : Int32} (q0 q1 : Nat) (ha0 : ws[q0]? = some (a0, .inl ((TY D)[0].1, n0, .inl f))) (ha1 : ws[q1]? = some (a, .inl ((TY D)[0].1, n1, .inl g))) (hl : Cond.methodLink own index arraycopyName ∈ Ts) (hnat : Cond.native arraycopyName ∈ Ts) (hs : Cond.static arraycopyName ∈ Ts) (hi : Cond.initialized "java/lang/System" ∈ Ts)
    (h1 : ¬ sp < 0) (h2 : ¬ dp < 0) (h3 : ¬ n < 0) (h4 : sp.toNatClampNeg + n.toNatClampNeg ≤ n0) (h5 : dp.toNatClampNeg + n.toNatClampNeg ≤ n1) (hR : 1 ≤ R.frames) (hR2 : (st.map fun v => v.category).sum + (nativeFrameWords "java/lang/System" "arraycopy" 5 + 11) ≤ R.locals) (hdg : decode cc pc = .ok (.invokestatic index, 3)) (hf : va_cpy f g sp.toNatClampNeg dp.toNatClampNeg n.toNatClampNeg = f') (hw : ws.set q1 (a, .inl ((TY D)[0].1, n1, .inl f')) = ws')
    (kk : G X u v (pc + 3) L st ws') : G X u v pc L (.int n :: .int dp :: .ref a :: .int sp :: .ref a0 :: st) ws := by
  obtain ⟨p, l', e, R', s, m, args, below, meth, c, Q, nL', D', z', A⟩ := X
  obtain ⟨hx, hb, hml, hown, hts, hE, hA, hZ, hlk, rfl, rfl, rfl, rfl, rfl, hin⟩ := O
  intro ls H locs hL hP hD hS
  subst hw
  subst hf
  exact va_copyi hx hb (hml.trans hL.1.symm) hown (hts _ hl) (hts _ hnat) (hts _ hs) (hts _ hi) hE.1 hP hD hS q0 q1 0 0 ha0 ha1 rfl rfl rfl h1 h2 h3 h4 h5 (fun _ _ => rfl) hR hR2 hdg (fun H1 locs1 hP1 hD1 hS1 => kk ls H1 locs1 hL hP1 hD1 hS1)
theorem CM_int {av : List Value} {L0 : List (Nat × Value)} {Ts' : List Cond} (hy : plainName y.cls = true) (hc : y.cls = own) (hw : Ts = Cond.code y cc maxL (some .int) :: Ts') (hl0 : (lg_sl av).length ≤ maxL) (hL0 : lv_args 0 av = L0)
    (body : ∀ X : Fx, Ok X l D z cc own Ts maxL rm (y.name == "<init>") → (∀ (pc : Nat) (L : List (Nat × Value)) (x : Int32) (ws : va_W), decode cc pc = .ok (.ireturn, 1) → post (some (.int x)) ws → G X mc ms pc L [.int x] ws) → G X 0 0 0 L0 [] win) : CM l y Ts rm D z av win post mc ms := by
  intro sz
  refine Met.ofW (cc := cc) (maxL := maxL) (ret := (some .int)) hy hw ?_
  intro p e s m args below meth c s₁ B hml hv
  obtain ⟨rfl, hsz, hP, hE, hD0, hZ⟩ := hv
  have hts := atoms_spec (ws := Ts) B.pre
  have hown : s.vm.findClass own = some m.cls := hc ▸ findClass_of_methodNamed B.named
  have hlocks := B.notSynchronized
  subst hsz
  have hD := hD0.self (sz := s.heap.size)
  have hl := lv_entry av (n := maxL) hl0
  rw [lg_entry_eq]
  rw [hL0] at hl
  refine body (p, l, e, (headSpec Ts rm).room, s, m, av.toArray, below, meth, c, MQ below (CQ D win post s.heap.size) av.toArray s mc ms (va_A win s.heap.size), maxL, D, z, va_A win s.heap.size) ⟨B.exec, B.bytes, hml, hown, hts, hE, fun q h => Or.inr h, hZ, hlocks, rfl, rfl, rfl, rfl, rfl, fun h => (name_of_methodNamed B.named B.method).1.trans (by simpa using h)⟩ ?_ _ _ [] hl hP hD va_S.rf
  intro pc L x ws hdg hp ls H locs hL hP hD hS
  exact W.iret B.exec B.bytes B.returns (fun t ht hW => ⟨⟨_, ws, rfl, hp, by rw [ht]; exact hP, hD⟩, hS.F ht⟩) hS.2.2 hdg
theorem CM_bool {av : List Value} {L0 : List (Nat × Value)} {Ts' : List Cond} (hy : plainName y.cls = true) (hc : y.cls = own) (hw : Ts = Cond.code y cc maxL (some .boolean) :: Ts') (hl0 : (lg_sl av).length ≤ maxL) (hL0 : lv_args 0 av = L0)
    (body : ∀ X : Fx, Ok X l D z cc own Ts maxL rm (y.name == "<init>") → (∀ (pc : Nat) (L : List (Nat × Value)) (x : Bool) (ws : va_W), decode cc pc = .ok (.ireturn, 1) → post (some (.int (bB x))) ws → G X mc ms pc L [.int (bB x)] ws) → G X 0 0 0 L0 [] win) : CM l y Ts rm D z av win post mc ms := by
  intro sz
  refine Met.ofW (cc := cc) (maxL := maxL) (ret := (some .boolean)) hy hw ?_
  intro p e s m args below meth c s₁ B hml hv
  obtain ⟨rfl, hsz, hP, hE, hD0, hZ⟩ := hv
  have hts := atoms_spec (ws := Ts) B.pre
  have hown : s.vm.findClass own = some m.cls := hc ▸ findClass_of_methodNamed B.named
  have hlocks := B.notSynchronized
  subst hsz
  have hD := hD0.self (sz := s.heap.size)
  have hl := lv_entry av (n := maxL) hl0
  rw [lg_entry_eq]
  rw [hL0] at hl
  refine body (p, l, e, (headSpec Ts rm).room, s, m, av.toArray, below, meth, c, MQ below (CQ D win post s.heap.size) av.toArray s mc ms (va_A win s.heap.size), maxL, D, z, va_A win s.heap.size) ⟨B.exec, B.bytes, hml, hown, hts, hE, fun q h => Or.inr h, hZ, hlocks, rfl, rfl, rfl, rfl, rfl, fun h => (name_of_methodNamed B.named B.method).1.trans (by simpa using h)⟩ ?_ _ _ [] hl hP hD va_S.rf
  intro pc L x ws hdg hp ls H locs hL hP hD hS
  exact W.zret B.exec B.bytes B.returns (bB_nn x) (fun t ht hW => ⟨⟨_, ws, rfl, hp, by rw [ht]; exact hP, hD⟩, hS.F ht⟩) hS.2.2 hdg
theorem CM_void {av : List Value} {L0 : List (Nat × Value)} {Ts' : List Cond} (hy : plainName y.cls = true) (hc : y.cls = own) (hw : Ts = Cond.code y cc maxL none :: Ts') (hl0 : (lg_sl av).length ≤ maxL) (hL0 : lv_args 0 av = L0)
    (body : ∀ X : Fx, Ok X l D z cc own Ts maxL rm (y.name == "<init>") → (∀ (pc : Nat) (L : List (Nat × Value)) (ws : va_W), decode cc pc = .ok (.return_, 1) → post none ws → G X mc ms pc L [] ws) → G X 0 0 0 L0 [] win) : CM l y Ts rm D z av win post mc ms := by
  intro sz
  refine Met.ofW (cc := cc) (maxL := maxL) (ret := none) hy hw ?_
  intro p e s m args below meth c s₁ B hml hv
  obtain ⟨rfl, hsz, hP, hE, hD0, hZ⟩ := hv
  have hts := atoms_spec (ws := Ts) B.pre
  have hown : s.vm.findClass own = some m.cls := hc ▸ findClass_of_methodNamed B.named
  have hlocks := B.notSynchronized
  subst hsz
  have hD := hD0.self (sz := s.heap.size)
  have hl := lv_entry av (n := maxL) hl0
  rw [lg_entry_eq]
  rw [hL0] at hl
  refine body (p, l, e, (headSpec Ts rm).room, s, m, av.toArray, below, meth, c, MQ below (CQ D win post s.heap.size) av.toArray s mc ms (va_A win s.heap.size), maxL, D, z, va_A win s.heap.size) ⟨B.exec, B.bytes, hml, hown, hts, hE, fun q h => Or.inr h, hZ, hlocks, rfl, rfl, rfl, rfl, rfl, fun h => (name_of_methodNamed B.named B.method).1.trans (by simpa using h)⟩ ?_ _ _ [] hl hP hD va_S.rf
  intro pc L ws hdg hp ls H locs hL hP hD hS
  exact W.vret B.exec B.bytes B.returns (fun t ht hW => ⟨⟨_, ws, rfl, hp, by rw [ht]; exact hP, hD⟩, hS.F ht⟩) hS.2.2 hdg
end GC
end
section
/-! values: arrays of Nats and of truth values, changed places -/
def upf {α : Type} (f : Nat → α) (k : Nat) (x : α) : Nat → α := fun j => if j = k then x else f j
def nf (f : Nat → Nat) : Nat → Int32 := fun k => nI (f k)
def bf (f : Nat → Bool) : Nat → Int32 := fun k => bB (f k)
def ab (x : Int32) : Int32 := if 0 ≤ x then x else 0 - x
theorem upf_s {α : Type} (f : Nat → α) (k : Nat) (x : α) : upf f k x k = x := by simp [upf]
theorem upf_n {α : Type} {f : Nat → α} {k j : Nat} {x : α} (h : j ≠ k) : upf f k x j = f j := by simp [upf, h]
theorem nf_upd (f : Nat → Nat) (k x : Nat) : upd (nf f) k (nI x) = nf (upf f k x) := by
  funext j
  by_cases h : j = k <;> simp [upd, nf, upf, h]
theorem bf_upd (f : Nat → Bool) (k : Nat) (x : Bool) : upd (bf f) k (vp_nar .boolean (bB x)) = bf (upf f k x) := by
  rw [bB_n]
  funext j
  by_cases h : j = k <;> simp [upd, bf, upf, h]
theorem bf_updT (f : Nat → Bool) (k : Nat) : upd (bf f) k (vp_nar .boolean (nI 1)) = bf (upf f k true) := bf_upd f k true
theorem bf_updF (f : Nat → Bool) (k : Nat) : upd (bf f) k (vp_nar .boolean (nI 0)) = bf (upf f k false) := bf_upd f k false
theorem cpy_r {α : Type} {f g : Nat → α} {a b c : Nat} (ha : a < 2147483648) (hb : b < 2147483648) (hc : c < 2147483648) : va_cpy f g (nI a).toNatClampNeg (nI b).toNatClampNeg (nI c).toNatClampNeg = va_cpy f g a b c := by
  rw [nI_clamp ha, nI_clamp hb, nI_clamp hc]
theorem cpy_all {α : Type} {f g : Nat → α} {n j : Nat} (h : j < n) : va_cpy f g 0 0 n j = f j := by
  rw [pk_cpy_in (Nat.zero_le _) (by omega)]; simp
theorem nf_cpy {f g : Nat → Nat} {a b c : Nat} (ha : a < 2147483648) (hb : b < 2147483648) (hc : c < 2147483648) : va_cpy (nf f) (nf g) (nI a).toNatClampNeg (nI b).toNatClampNeg (nI c).toNatClampNeg = nf (va_cpy f g a b c) := by
  rw [cpy_r ha hb hc]
  funext j
  by_cases h : b ≤ j ∧ j < b + c
  · rw [pk_cpy_in h.1 h.2]
    simp only [nf]
    rw [pk_cpy_in h.1 h.2]
  · have h' : j < b ∨ b + c ≤ j := by omega
    rw [pk_cpy_out h']
    simp only [nf]
    rw [pk_cpy_out h']
theorem nI_max {a b : Nat} (ha : a < 2147483648) (hb : b < 2147483648) : (if nI a < nI b then nI b else nI a) = nI (max a b) := by
  by_cases h : a < b
  · rw [if_pos ((nI_ltI ha hb).mpr h), Nat.max_eq_right (Nat.le_of_lt h)]
  · rw [if_neg (fun h2 => h ((nI_ltI ha hb).mp h2)), Nat.max_eq_left (by omega)]
theorem nI_min {a b : Nat} (ha : a < 2147483648) (hb : b < 2147483648) : (if nI b < nI a then nI b else nI a) = nI (min a b) := by
  by_cases h : b < a
  · rw [if_pos ((nI_ltI hb ha).mpr h), Nat.min_eq_right (Nat.le_of_lt h)]
  · rw [if_neg (fun h2 => h ((nI_ltI hb ha).mp h2)), Nat.min_eq_left (by omega)]
theorem nI_dec {a : Nat} (h : 1 ≤ a) : nI a + Int32.ofInt (-1) = nI (a - 1) := by
  obtain ⟨b, rfl⟩ : ∃ b, a = b + 1 := ⟨a - 1, by omega⟩
  exact pk_m1 b
/-- an Int32 is negative, or too great, or a Nat below n -/
theorem ix_c (x : Int32) {n : Nat} (hn : n < 2147483648) : (x < 0 ∨ nI n ≤ x) ∨ ∃ j : Nat, j < n ∧ x = nI j := by
  rcases pk_ix x hn with h | h | h
  · exact Or.inl (Or.inl h)
  · exact Or.inl (Or.inr h)
  · exact Or.inr h
end
section
/-! the packed walk: statics, arrays of references -/
section GM
variable {X : Fx} {l : Launch} {D : va_G} {z : Nat × Nat × Nat} {cc : ByteArray} {own : String} {Ts : List Cond} {nL : Nat} {R : Room} {ini : Bool} {u v pc : Nat} {L L' : List (Nat × Value)} {st : List Value} {ws ws' : va_W} {index : Nat}
theorem g_getsF (O : Ok X l D z cc own Ts nL R ini) {host : String} (j : Nat) (hlink : NWf[j]? = some (own, index, RX8, "FIRST_SETTING", "[I", host)) (hdg : decode cc pc = .ok (.getstatic index, 3)) (kk : G X u v (pc + 3) L (.ref z.1 :: st) ws) : G X u v pc L st ws := by
  obtain ⟨p, l', e, R', s, m, args, below, meth, c, Q, nL', D', z', A⟩ := X
  obtain ⟨hx, hb, hml, hown, hts, hE, hA, hZ, hlk, rfl, rfl, rfl, rfl, rfl, hin⟩ := O
  intro ls H locs hL hP hD hS
  exact va_getsN hx hb hZ.1.1 hS hown (va_Nw.use rfl (hE.2.1 _ (List.mem_of_getElem? hlink))) (fun _ h => h) hdg (kk ls H locs hL hP hD hS)
theorem g_getsL (O : Ok X l D z cc own Ts nL R ini) (hlink : Cond.fieldLink own index RX8 "LEAST_SETTING" "[I" ∈ Ts) (hdg : decode cc pc = .ok (.getstatic index, 3)) (kk : G X u v (pc + 3) L (.ref z.2.1 :: st) ws) : G X u v pc L st ws := by
  obtain ⟨p, l', e, R', s, m, args, below, meth, c, Q, nL', D', z', A⟩ := X
  obtain ⟨hx, hb, hml, hown, hts, hE, hA, hZ, hlk, rfl, rfl, rfl, rfl, rfl, hin⟩ := O
  intro ls H locs hL hP hD hS
  exact va_gets hx hb hZ.2.1.1 hS hown (hts _ hlink) (fun _ h => h) hdg (kk ls H locs hL hP hD hS)
theorem g_getsM (O : Ok X l D z cc own Ts nL R ini) (hlink : Cond.fieldLink own index RX8 "MOST_SETTING" "[I" ∈ Ts) (hdg : decode cc pc = .ok (.getstatic index, 3)) (kk : G X u v (pc + 3) L (.ref z.2.2 :: st) ws) : G X u v pc L st ws := by
  obtain ⟨p, l', e, R', s, m, args, below, meth, c, Q, nL', D', z', A⟩ := X
  obtain ⟨hx, hb, hml, hown, hts, hE, hA, hZ, hlk, rfl, rfl, rfl, rfl, rfl, hin⟩ := O
  intro ls H locs hL hP hD hS
  exact va_gets hx hb hZ.2.2.1 hS hown (hts _ hlink) (fun _ h => h) hdg (kk ls H locs hL hP hD hS)
theorem g_saldL (O : Ok X l D z cc own Ts nL R ini) {i : Nat} (hi : i < 4) (hdg : decode cc pc = .ok (.iaload, 1)) (kk : G X u v (pc + 1) L (.int (zL i) :: st) ws) : G X u v pc L (.int (nI i) :: .ref z.2.1 :: st) ws := by
  obtain ⟨p, l', e, R', s, m, args, below, meth, c, Q, nL', D', z', A⟩ := X
  obtain ⟨hx, hb, hml, hown, hts, hE, hA, hZ, hlk, rfl, rfl, rfl, rfl, rfl, hin⟩ := O
  intro ls H locs hL hP hD hS
  exact va_ti hx hb hZ.2.1.2 hS (vp_in_nI hi (by omega)) (v := .int (zL i)) (by rw [nI_clamp (by omega)]) hdg (kk ls H locs hL hP hD hS)
theorem g_saldM (O : Ok X l D z cc own Ts nL R ini) {i : Nat} (hi : i < 4) (hdg : decode cc pc = .ok (.iaload, 1)) (kk : G X u v (pc + 1) L (.int (zM i) :: st) ws) : G X u v pc L (.int (nI i) :: .ref z.2.2 :: st) ws := by
  obtain ⟨p, l', e, R', s, m, args, below, meth, c, Q, nL', D', z', A⟩ := X
  obtain ⟨hx, hb, hml, hown, hts, hE, hA, hZ, hlk, rfl, rfl, rfl, rfl, rfl, hin⟩ := O
  intro ls H locs hL hP hD hS
  exact va_ti hx hb hZ.2.2.2 hS (vp_in_nI hi (by omega)) (v := .int (zM i)) (by rw [nI_clamp (by omega)]) hdg (kk ls H locs hL hP hD hS)
theorem g_ifnull (O : Ok X l D z cc own Ts nL R ini) {x : Nat} {off : Int} (hdg : decode cc pc = .ok (.ifnull off, 3)) (kk : G X u v (pc + 3) L st ws) : G X u v pc L (.ref x :: st) ws := by
  obtain ⟨p, l', e, R', s, m, args, below, meth, c, Q, nL', D', z', A⟩ := X
  obtain ⟨hx, hb, hml, hown, hts, hE, hA, hZ, hlk, rfl, rfl, rfl, rfl, rfl, hin⟩ := O
  intro ls H locs hL hP hD hS
  exact lv_ifnull hx hb hdg (kk ls H locs hL hP hD hS)
theorem g_aald (O : Ok X l D z cc own Ts nL R ini) {a n i : Nat} {f : Nat → Option Nat} (q0 : Nat) (ha : ws[q0]? = some (a, .inl ((TY D)[3].1, n, .inr (.inr (.inr (.inr f)))))) (hi : i < n) (hn : n < 2147483648) (hdg : decode cc pc = .ok (.aaload, 1)) (kk : G X u v (pc + 1) L (va_rf (f i) :: st) ws) : G X u v pc L (.int (nI i) :: .ref a :: st) ws := by
  obtain ⟨p, l', e, R', s, m, args, below, meth, c, Q, nL', D', z', A⟩ := X
  obtain ⟨hx, hb, hml, hown, hts, hE, hA, hZ, hlk, rfl, rfl, rfl, rfl, rfl, hin⟩ := O
  intro ls H locs hL hP hD hS
  exact va_aldq (C := RX5) hx hb hE.1 hP q0 3 ha rfl (vp_in_nI hi hn) hdg (by rw [nI_clamp (Nat.lt_trans hi hn)]; exact kk ls H locs hL hP hD hS)
theorem g_aast (O : Ok X l D z cc own Ts nL R ini) {a n i b : Nat} {vs : List Value} {f f' : Nat → Option Nat} (q0 qk : Nat) (ha : ws[q0]? = some (a, .inl ((TY D)[3].1, n, .inr (.inr (.inr (.inr f)))))) (hv : ws[qk]? = some (b, .inr (5, vs))) (hi : i < n) (hn : n < 2147483648) (hdg : decode cc pc = .ok (.aastore, 1)) (hf : va_up f i (some b) = f') (hw : ws.set q0 (a, .inl ((TY D)[3].1, n, .inr (.inr (.inr (.inr f'))))) = ws') (kk : G X u v (pc + 1) L st ws') : G X u v pc L (.ref b :: .int (nI i) :: .ref a :: st) ws := by
  obtain ⟨p, l', e, R', s, m, args, below, meth, c, Q, nL', D', z', A⟩ := X
  obtain ⟨hx, hb, hml, hown, hts, hE, hA, hZ, hlk, rfl, rfl, rfl, rfl, rfl, hin⟩ := O
  intro ls H locs hL hP hD hS
  subst hw
  subst hf
  refine va_astq (r := (RX5, TX5, 12)) hx hb hE.1 hP hD hS q0 3 qk 5 ha rfl hv rfl (vp_in_nI hi hn) hdg ?_
  rw [nI_clamp (Nat.lt_trans hi hn)]
  exact fun H1 locs1 hP1 hD1 hS1 => kk ls H1 locs1 hL hP1 hD1 hS1
theorem TY_obj {D : va_G} {s : State} {cA : ClassId} (hK : va_K D vwCl (TY D ++ [(cA, .object RX5)]) s) : cA = (TY D)[3].1 := by
  obtain ⟨_, _, -, -, -, h1⟩ := (hK.2 4 (cA, .object RX5) rfl).2
  obtain ⟨_, _, -, -, -, h2⟩ := (hK.2 3 ((TY D)[3].1, .object RX5) rfl).2
  exact Option.some.inj (h1.symm.trans h2)
theorem g_anew (O : Ok X l D z cc own Ts nL R ini) {n : Int32} {N : Nat} (hcl : Cond.classLink own index RX5 ∈ Ts) (hao : Cond.arrayOver (.object RX5) ∈ Ts) (hn : ¬ n < 0) (hN : n.toNatClampNeg = N) (hbytes : N * 4 ≤ 536870912) (hcells : u + 1 ≤ R.cells) (hslots : v + N ≤ R.slots) (hdg : decode cc pc = .ok (.anewarray index, 3)) (kk : ∀ q : Nat, G X (u + 1) (v + N) (pc + 3) L (.ref q :: st) (ws ++ [(q, .inl ((TY D)[3].1, N, .inr (.inr (.inr (.inr (fun _ => none))))))])) : G X u v pc L (.int n :: st) ws := by
  obtain ⟨p, l', e, R', s, m, args, below, meth, c, Q, nL', D', z', A⟩ := X
  obtain ⟨hx, hb, hml, hown, hts, hE, hA, hZ, hlk, rfl, rfl, rfl, rfl, rfl, hin⟩ := O
  intro ls H locs hL hP hD hS
  refine va_newq hx hb hown (hts _ hcl) (va_AO.of (hts _ hao)) hE.1 hP hD hS hA hn hN hbytes hcells hslots hdg (fun q cA H1 hK1 hP1 hD1 hS1 => ?_)
  have hc := TY_obj hK1
  subst hc
  exact kk q ls H1 locs hL hP1 hD1 hS1
/-- the first settings into a row of four -/
theorem g_copyT (O : Ok X l D z cc own Ts nL R ini) {a : Nat} {g : Nat → Int32} (q1 : Nat) (ha1 : ws[q1]? = some (a, .inl ((TY D)[0].1, 4, .inl g))) (hl : Cond.methodLink own index arraycopyName ∈ Ts) (hnat : Cond.native arraycopyName ∈ Ts) (hs : Cond.static arraycopyName ∈ Ts) (hi : Cond.initialized "java/lang/System" ∈ Ts) (hR : 1 ≤ R.frames) (hR2 : (st.map fun v => v.category).sum + (nativeFrameWords "java/lang/System" "arraycopy" 5 + 11) ≤ R.locals) (hdg : decode cc pc = .ok (.invokestatic index, 3)) (hw : ws.set q1 (a, .inl ((TY D)[0].1, 4, .inl (va_cpy zF g 0 0 4))) = ws')
    (kk : G X u v (pc + 3) L st ws') : G X u v pc L (.int (nI 4) :: .int (nI 0) :: .ref a :: .int (nI 0) :: .ref z.1 :: st) ws := by
  obtain ⟨p, l', e, R', s, m, args, below, meth, c, Q, nL', D', z', A⟩ := X
  obtain ⟨hx, hb, hml, hown, hts, hE, hA, hZ, hlk, rfl, rfl, rfl, rfl, rfl, hin⟩ := O
  intro ls H locs hL hP hD hS
  subst hw
  have hn0 : (nI 0).toInt = 0 := by decide +kernel
  have hn4 : (nI 4).toInt = 4 := by decide +kernel
  have c0 : (nI 0).toNatClampNeg = 0 := by decide +kernel
  have c4 : (nI 4).toNatClampNeg = 4 := by decide +kernel
  intro T hT XS
  obtain ⟨scr, hs1, hs2, hs3, hs4, -, hs5, hs7⟩ := hZ.1.2
  have hc0 : H[z'.1]? = some scr := by rw [hS.2.1 z'.1 (Array.getElem?_eq_some_iff.mp hs1).1 hs7]; exact hs1
  have hc1 : H[a]? = some (vp_cell (TY D')[0].1 (4, .inl g)) := hP q1 _ ha1
  obtain ⟨hs6, k0, hk0, cm0, hkk0⟩ := hs2
  obtain ⟨-, k1, hk1, cm1, hkk1⟩ := (hE.1.2 0 ((TY D')[0].1, .int) rfl).1 4 (fun j => .int (g j))
  obtain ⟨vm', X', step⟩ := XS.arraycopy hx hown (hts _ hl) (hts _ hnat) (hts _ hs) (hts _ hi) (src := z'.1) (dst := a) (cs := scr) (cd := vp_cell (TY D')[0].1 (4, .inl g)) (srcPos := nI 0) (destPos := nI 0) (n := nI 4) (by rw [hT]; exact hc0) (by rw [hT]; exact hc1)
    hs6 (fun _ h => by cases h) hs3 (fun h => by cases h) hk0 hk1 hkk0 hkk1 (by simp [refKind]) (by decide +kernel) (by decide +kernel) (by decide +kernel)
    (by rw [hn0, hn4]; omega)
    (by rw [hn0, hn4]; show ¬ _ > ((arrV _ 4 (fun j => .int (g j))).slots.size : Int); rw [arrV_size]; omega)
    (fun vm₁ _ i hi => by
      have e : scr.slots.getD ((nI 0).toNatClampNeg + i) .null = .int (zF ((nI 0).toNatClampNeg + i)) := by
        rw [c4] at hi
        rw [Array.getD_eq_getD_getElem?, hs5 _ (by rw [c0]; omega)]
        rfl
      refine ⟨?_, ?_⟩
      · rw [e]; rfl
      · rw [e]; exact trivial)
    (g := F0 m pc ls (.int (nI 4) :: .int (nI 0) :: .ref a :: .int (nI 0) :: .ref z'.1 :: st)) rfl (by rw [hml]; exact hL.1) (rest := st) rfl (by rw [hb]; exact hdg) hR (by show 2 * 0 + _ + _ ≤ _; omega)
  have e1 : copied scr (vp_cell (TY D')[0].1 (4, .inl g)) (nI 0) (nI 0) (nI 4) = vp_cell (TY D')[0].1 (4, .inl (va_cpy zF g 0 0 4)) := by
    have h := va_copiedX (sp := (nI 0).toNatClampNeg) (dp := (nI 0).toNatClampNeg) (n := (nI 4).toNatClampNeg) (n1 := 4) (fun w => Value.int w) scr (TY D')[0].1 zF g hs5 (by rw [c0, c4]; omega)
    rw [c0, c4] at h
    exact h
  rw [e1] at X' step
  have hlt : a < H.size := (Array.getElem?_eq_some_iff.mp hc1).1
  generalize hcv : vp_cell (TY D')[0].1 (4, .inl (va_cpy zF g 0 0 4)) = cv at X' step
  have hheap : ((T.setVm vm').setCell a cv).heap = H.setIfInBounds a cv := by rw [← hT]; rfl
  have oq : ∀ q : Nat, q ≠ a → (H.setIfInBounds a cv)[q]? = H[q]? := fun q hq => by simp [Array.getElem?_setIfInBounds, Ne.symm hq]
  obtain ⟨t, a1, b1⟩ := kk ls _ _ hL (hP.set hD ha1 (show (H.setIfInBounds a cv)[a]? = some _ by rw [← hcv]; simp [Array.getElem?_setIfInBounds, hlt]) oq) (hD.set ha1) ⟨by simp; exact hS.1, fun q g1 g2 => by
      rw [oq q (fun e => g2 (by rw [e]; exact hD.2 q1 _ ha1))]
      exact hS.2.1 q g1 g2, fun q hq => by
      rcases List.mem_append.mp hq with h | h
      · exact hS.2.2 q h
      · obtain ⟨w, -, hw⟩ := List.mem_map.mp h
        rw [← hw]
        exact hD.2 q1 _ ha1⟩ _ hheap X'
  exact ⟨t, step t a1, b1⟩
end GM
end
section
/-! a piece of bowings: what its rows hold behind a change -/
def apf {α : Type} (f g : Nat → α) (n i : Nat) : Nat → α := fun j => if n ≤ j ∧ j < n + i then g (j - n) else f j
theorem apf_0 {α : Type} (f g : Nat → α) (n : Nat) : apf f g n 0 = f := by funext j; simp only [apf]; rw [if_neg (by omega)]
theorem apf_s {α : Type} (f g : Nat → α) (n i : Nat) : upf (apf f g n i) (n + i) (g i) = apf f g n (i + 1) := by
  funext j
  by_cases h : j = n + i
  · subst h; simp only [upf, apf]; rw [if_pos trivial, if_pos (by omega)]; congr 1; omega
  · simp only [upf, apf]; rw [if_neg h]
    by_cases h2 : n ≤ j ∧ j < n + i
    · rw [if_pos h2, if_pos (by omega)]
    · rw [if_neg h2, if_neg (by omega)]
theorem apf_at {α : Type} {f g : Nat → α} {i j : Nat} (h : j < i) : apf f g 0 i j = g j := by simp only [apf]; rw [if_pos (by omega)]; congr 1
def dff {α : Type} (f : Nat → α) (d i : Nat) : Nat → α := fun j => if j < i then f (j + d) else f j
theorem dff_0 {α : Type} (f : Nat → α) (d : Nat) : dff f d 0 = f := by funext j; simp [dff]
theorem dff_s {α : Type} (f : Nat → α) (d i : Nat) : upf (dff f d i) i (dff f d i (d + i)) = dff f d (i + 1) := by
  funext j
  by_cases h : j = i
  · subst h; simp only [upf, dff]; rw [if_pos trivial, if_neg (by omega), if_pos (by omega), Nat.add_comm]
  · simp only [upf, dff]; rw [if_neg h]
    by_cases h2 : j < i
    · rw [if_pos h2, if_pos (by omega)]
    · rw [if_neg h2, if_neg (by omega)]
def cntB (p : Nat → Bool) : Nat → Nat
  | 0 => 0
  | n + 1 => cntB p n + (if p n then 1 else 0)
theorem cntB_le (p : Nat → Bool) (n : Nat) : cntB p n ≤ n := by
  induction n with
  | zero => exact Nat.le_refl 0
  | succ n ih => simp only [cntB]; split <;> omega
theorem cntB_t {p : Nat → Bool} {n : Nat} (h : p n = true) : cntB p (n + 1) = cntB p n + 1 := by simp [cntB, h]
theorem cntB_f {p : Nat → Bool} {n : Nat} (h : p n = false) : cntB p (n + 1) = cntB p n := by simp [cntB, h]
def flt {α : Type} (f : Nat → α) (p : Nat → Bool) : Nat → (Nat → α)
  | 0 => f
  | n + 1 => if p n then upf (flt f p n) (cntB p n) (f n) else flt f p n
theorem flt_hi {α : Type} (f : Nat → α) (p : Nat → Bool) (n : Nat) : ∀ j, cntB p n ≤ j → flt f p n j = f j := by
  induction n with
  | zero => intro j _; rfl
  | succ n ih =>
    intro j h
    cases hp : p n
    · rw [cntB_f hp] at h; simp only [flt, hp]; exact ih j h
    · rw [cntB_t hp] at h; simp only [flt, hp, if_true]; rw [upf_n (by omega)]; exact ih j (by omega)
theorem flt_t {α : Type} {f : Nat → α} {p : Nat → Bool} {n : Nat} (h : p n = true) : flt f p (n + 1) = upf (flt f p n) (cntB p n) (flt f p n n) := by
  rw [flt_hi f p n n (cntB_le p n)]; simp [flt, h]
theorem flt_f {α : Type} {f : Nat → α} {p : Nat → Bool} {n : Nat} (h : p n = false) : flt f p (n + 1) = flt f p n := by simp [flt, h]
def isB (f : Nat → Nat) (x : Nat) : Nat → Bool := fun j => f j == x
def isN (f : Nat → Nat) (x : Nat) : Nat → Bool := fun j => !(f j == x)
end
section
/-! what a State holds, as one value -/
abbrev SV : Type := (Nat → Nat) × (Nat → Nat) × (Nat → Nat) × Nat × (Nat → Int32) × (Nat → Nat) × (Nat → Nat) × (Nat → Nat) × Nat × Int32 × Int32 × Int32 × Int32 × Int32 × Int32
def mkS (g cc cr : Nat → Nat) (nc : Nat) (se : Nat → Int32) (fs fa fk : Nat → Nat) (ps : Nat) (la st sw fl sk mu : Int32) : SV := (g, cc, cr, nc, se, fs, fa, fk, ps, la, st, sw, fl, sk, mu)
def sv_g (s : SV) : Nat → Nat := s.1
def sv_cc (s : SV) : Nat → Nat := s.2.1
def sv_cr (s : SV) : Nat → Nat := s.2.2.1
def sv_nc (s : SV) : Nat := s.2.2.2.1
def sv_se (s : SV) : Nat → Int32 := s.2.2.2.2.1
def sv_fs (s : SV) : Nat → Nat := s.2.2.2.2.2.1
def sv_fa (s : SV) : Nat → Nat := s.2.2.2.2.2.2.1
def sv_fk (s : SV) : Nat → Nat := s.2.2.2.2.2.2.2.1
def sv_ps (s : SV) : Nat := s.2.2.2.2.2.2.2.2.1
def sv_la (s : SV) : Int32 := s.2.2.2.2.2.2.2.2.2.1
def sv_st (s : SV) : Int32 := s.2.2.2.2.2.2.2.2.2.2.1
def sv_sw (s : SV) : Int32 := s.2.2.2.2.2.2.2.2.2.2.2.1
def sv_fl (s : SV) : Int32 := s.2.2.2.2.2.2.2.2.2.2.2.2.1
def sv_sk (s : SV) : Int32 := s.2.2.2.2.2.2.2.2.2.2.2.2.2.1
def sv_mu (s : SV) : Int32 := s.2.2.2.2.2.2.2.2.2.2.2.2.2.2
/-- a state like another one (of the rows that hold more than counts, what counts) -/
def cpS (s o : SV) : SV := mkS (va_cpy (sv_g o) (sv_g s) 0 0 144) (va_cpy (sv_cc o) (sv_cc s) 0 0 4) (va_cpy (sv_cr o) (sv_cr s) 0 0 4) (sv_nc o) (va_cpy (sv_se o) (sv_se s) 0 0 4) (apf (sv_fs s) (sv_fs o) 0 (sv_ps o)) (apf (sv_fa s) (sv_fa o) 0 (sv_ps o)) (apf (sv_fk s) (sv_fk o) 0 (sv_ps o)) (sv_ps o) (sv_la o) (sv_st o) (sv_sw o) (sv_fl o) (sv_sk o) (sv_mu o)
/-- sums and greatest numbers of Nats -/
def smN (g : Nat → Nat) : Nat → Nat
  | 0 => 0
  | n + 1 => smN g n + g n
def mxN (g : Nat → Nat) : Nat → Nat
  | 0 => 0
  | n + 1 => max (mxN g n) (g n)
theorem mxN_lt {g : Nat → Nat} {b n : Nat} (hb : 0 < b) (h : ∀ j, j < n → g j < b) : mxN g n < b := by
  induction n with
  | zero => exact hb
  | succ n ih =>
    simp only [mxN]
    have h1 := ih (fun j hj => h j (by omega))
    have h2 := h n (by omega)
    omega
/-- the same number on the first n places -/
def cvf (g : Nat → Nat) (e : Nat) : Nat → (Nat → Nat)
  | 0 => g
  | n + 1 => upf (cvf g e n) n e
theorem cvf_at (g : Nat → Nat) (e n : Nat) : ∀ j, j < n → cvf g e n j = e := by
  induction n with
  | zero => intro j h; omega
  | succ n ih =>
    intro j h
    simp only [cvf]
    by_cases hj : j = n
    · subst hj; exact upf_s _ _ _
    · rw [upf_n hj]; exact ih j (by omega)
/-- a place of a row goes, those behind it come nearer -/
def drf (f : Nat → Nat) (d : Nat) : Nat → (Nat → Nat)
  | 0 => f
  | n + 1 => upf (drf f d n) (d + n) (drf f d n (d + n + 1))
theorem drf_hi (f : Nat → Nat) (d n : Nat) : ∀ j, d + n ≤ j → drf f d n j = f j := by
  induction n with
  | zero => intro j _; rfl
  | succ n ih => intro j h; simp only [drf]; rw [upf_n (by omega)]; exact ih j (by omega)
theorem drf_lo (f : Nat → Nat) (d n : Nat) : ∀ j, j < d → drf f d n j = f j := by
  induction n with
  | zero => intro j _; rfl
  | succ n ih => intro j h; simp only [drf]; rw [upf_n (by omega)]; exact ih j (by omega)
theorem drf_at (f : Nat → Nat) (d n : Nat) : ∀ j, d ≤ j → j < d + n → drf f d n j = f (j + 1) := by
  induction n with
  | zero => intro j _ _; omega
  | succ n ih =>
    intro j h1 h2
    simp only [drf]
    by_cases hj : j = d + n
    · subst hj; rw [upf_s]; exact drf_hi f d n _ (by omega)
    · rw [upf_n hj]; exact ih j h1 (by omega)
/-- the first of the first n places with a property -/
def fdB (p : Nat → Bool) : Nat → Option Nat
  | 0 => none
  | n + 1 => match fdB p n with
    | some j => some j
    | none => if p n then some n else none
theorem fdB_none {p : Nat → Bool} {n : Nat} : fdB p n = none ↔ ∀ j, j < n → p j = false := by
  induction n with
  | zero => simp [fdB]
  | succ n ih =>
    simp only [fdB]
    cases hf : fdB p n with
    | some j => 
      simp only [reduceCtorEq, false_iff]
      intro h
      rw [ih.mpr (fun j hj => h j (by omega))] at hf
      cases hf
    | none =>
      have h0 := ih.mp hf
      cases hp : p n
      · simp only [Bool.false_eq_true, if_false, true_iff]
        intro j hj
        by_cases hjn : j = n
        · subst hjn; exact hp
        · exact h0 j (by omega)
      · simp only [if_true, reduceCtorEq, false_iff]
        intro h
        have := h n (by omega)
        rw [hp] at this; cases this
theorem fdB_some {p : Nat → Bool} {n k : Nat} : fdB p n = some k ↔ k < n ∧ p k = true ∧ ∀ j, j < k → p j = false := by
  induction n with
  | zero => simp [fdB]
  | succ n ih =>
    simp only [fdB]
    cases hf : fdB p n with
    | some j =>
      rw [hf] at ih
      simp only [Option.some.injEq] at ih ⊢
      constructor
      · intro h
        have h1 := ih.mp h
        exact ⟨by omega, h1.2⟩
      · intro h
        have h0 : fdB p n = some j := hf
        by_cases hk : k < n
        · exact ih.mpr ⟨hk, h.2⟩
        · have hkn : k = n := by omega
          have hnone : fdB p n = none := fdB_none.mpr (fun i hi => h.2.2 i (by omega))
          rw [hnone] at h0; cases h0
    | none =>
      have h0 := fdB_none.mp hf
      cases hp : p n
      · simp only [Bool.false_eq_true, if_false, reduceCtorEq, false_iff]
        intro h
        by_cases hk : k < n
        · rw [h0 k hk] at h; cases h.2.1
        · have hkn : k = n := by omega
          rw [hkn, hp] at h; cases h.2.1
      · simp only [if_true, Option.some.injEq]
        constructor
        · intro h; subst h; exact ⟨by omega, hp, h0⟩
        · intro h
          by_cases hk : k < n
          · rw [h0 k hk] at h; cases h.2.1
          · omega
/-- an answer out of a search: the place, or -1 -/
def orM (o : Option Nat) : Int32 := match o with
  | some k => nI k
  | none => -1
def rf4 (a b c d : Nat) : Nat → Option Nat := fun j => match j with
  | 0 => some a
  | 1 => some b
  | 2 => some c
  | _ => some d
end
section
theorem dX0_init_0 : decode cX0_init 0 = .ok (.aload_n 0, 1) := by decide +kernel
theorem dX0_init_1 : decode cX0_init 1 = .ok (.invokespecial 3, 3) := by decide +kernel
theorem dX0_init_4 : decode cX0_init 4 = .ok (.aload_n 0, 1) := by decide +kernel
theorem dX0_init_5 : decode cX0_init 5 = .ok (.bipush 48, 2) := by decide +kernel
theorem dX0_init_7 : decode cX0_init 7 = .ok (.newarray .int, 2) := by decide +kernel
theorem dX0_init_9 : decode cX0_init 9 = .ok (.putfield 9, 3) := by decide +kernel
theorem dX0_init_12 : decode cX0_init 12 = .ok (.aload_n 0, 1) := by decide +kernel
theorem dX0_init_13 : decode cX0_init 13 = .ok (.iconst 0, 1) := by decide +kernel
theorem dX0_init_14 : decode cX0_init 14 = .ok (.putfield 15, 3) := by decide +kernel
theorem dX0_init_17 : decode cX0_init 17 = .ok (.aload_n 0, 1) := by decide +kernel
theorem dX0_init_18 : decode cX0_init 18 = .ok (.bipush 48, 2) := by decide +kernel
theorem dX0_init_20 : decode cX0_init 20 = .ok (.newarray .boolean, 2) := by decide +kernel
theorem dX0_init_22 : decode cX0_init 22 = .ok (.putfield 19, 3) := by decide +kernel
theorem dX0_init_25 : decode cX0_init 25 = .ok (.aload_n 0, 1) := by decide +kernel
theorem dX0_init_26 : decode cX0_init 26 = .ok (.aload_n 1, 1) := by decide +kernel
theorem dX0_init_27 : decode cX0_init 27 = .ok (.putfield 23, 3) := by decide +kernel
theorem dX0_init_30 : decode cX0_init 30 = .ok (.aload_n 0, 1) := by decide +kernel
theorem dX0_init_31 : decode cX0_init 31 = .ok (.aload_n 2, 1) := by decide +kernel
theorem dX0_init_32 : decode cX0_init 32 = .ok (.putfield 27, 3) := by decide +kernel
theorem dX0_init_35 : decode cX0_init 35 = .ok (.return_, 1) := by decide +kernel
set_option maxRecDepth 20000 in
theorem ggX0_clampsAllow_X7_swingAt : GoodIn wsX0_clampsAllow wsX7_swingAt := goodIn_r _ [7, 8, 9, 10, 11, 12, 13, 14, 15, 16, 17, 18, 19, 20, 38, 39, 40, 41, 42] (by decide +kernel) (by decide +kernel)
set_option maxRecDepth 20000 in
theorem gX0_clampsAllow_X7_swingAt : GoodIn wsX0_clampsAllow (wsV RX0 42 RX7 yX7_swingAt wsX7_swingAt) := goodIn_app (goodIn_of _ (by decide +kernel)) ggX0_clampsAllow_X7_swingAt
theorem dX0_clampsAllow_0 : decode cX0_clampsAllow 0 = .ok (.iconst 0, 1) := by decide +kernel
theorem dX0_clampsAllow_1 : decode cX0_clampsAllow 1 = .ok (.istore_n 2, 1) := by decide +kernel
theorem dX0_clampsAllow_2 : decode cX0_clampsAllow 2 = .ok (.iload_n 2, 1) := by decide +kernel
theorem dX0_clampsAllow_3 : decode cX0_clampsAllow 3 = .ok (.aload_n 0, 1) := by decide +kernel
theorem dX0_clampsAllow_4 : decode cX0_clampsAllow 4 = .ok (.getfield 27, 3) := by decide +kernel
theorem dX0_clampsAllow_7 : decode cX0_clampsAllow 7 = .ok (.getfield 31, 3) := by decide +kernel
theorem dX0_clampsAllow_10 : decode cX0_clampsAllow 10 = .ok (.if_icmp .ge 51, 3) := by decide +kernel
theorem dX0_clampsAllow_13 : decode cX0_clampsAllow 13 = .ok (.aload_n 0, 1) := by decide +kernel
theorem dX0_clampsAllow_14 : decode cX0_clampsAllow 14 = .ok (.getfield 23, 3) := by decide +kernel
theorem dX0_clampsAllow_17 : decode cX0_clampsAllow 17 = .ok (.iload_n 1, 1) := by decide +kernel
theorem dX0_clampsAllow_18 : decode cX0_clampsAllow 18 = .ok (.aload_n 0, 1) := by decide +kernel
theorem dX0_clampsAllow_19 : decode cX0_clampsAllow 19 = .ok (.getfield 27, 3) := by decide +kernel
theorem dX0_clampsAllow_22 : decode cX0_clampsAllow 22 = .ok (.getfield 36, 3) := by decide +kernel
theorem dX0_clampsAllow_25 : decode cX0_clampsAllow 25 = .ok (.iload_n 2, 1) := by decide +kernel
theorem dX0_clampsAllow_26 : decode cX0_clampsAllow 26 = .ok (.iaload, 1) := by decide +kernel
theorem dX0_clampsAllow_27 : decode cX0_clampsAllow 27 = .ok (.aload_n 0, 1) := by decide +kernel
theorem dX0_clampsAllow_28 : decode cX0_clampsAllow 28 = .ok (.getfield 27, 3) := by decide +kernel
theorem dX0_clampsAllow_31 : decode cX0_clampsAllow 31 = .ok (.getfield 39, 3) := by decide +kernel
theorem dX0_clampsAllow_34 : decode cX0_clampsAllow 34 = .ok (.iload_n 2, 1) := by decide +kernel
theorem dX0_clampsAllow_35 : decode cX0_clampsAllow 35 = .ok (.iaload, 1) := by decide +kernel
theorem dX0_clampsAllow_36 : decode cX0_clampsAllow 36 = .ok (.invokevirtual 42, 3) := by decide +kernel
theorem dX0_clampsAllow_39 : decode cX0_clampsAllow 39 = .ok (.istore_n 3, 1) := by decide +kernel
theorem dX0_clampsAllow_40 : decode cX0_clampsAllow 40 = .ok (.iload_n 3, 1) := by decide +kernel
theorem dX0_clampsAllow_41 : decode cX0_clampsAllow 41 = .ok (.aload_n 0, 1) := by decide +kernel
theorem dX0_clampsAllow_42 : decode cX0_clampsAllow 42 = .ok (.getfield 27, 3) := by decide +kernel
theorem dX0_clampsAllow_45 : decode cX0_clampsAllow 45 = .ok (.getfield 48, 3) := by decide +kernel
theorem dX0_clampsAllow_48 : decode cX0_clampsAllow 48 = .ok (.iconst 0, 1) := by decide +kernel
theorem dX0_clampsAllow_49 : decode cX0_clampsAllow 49 = .ok (.iaload, 1) := by decide +kernel
theorem dX0_clampsAllow_50 : decode cX0_clampsAllow 50 = .ok (.if_icmp .le 5, 3) := by decide +kernel
theorem dX0_clampsAllow_53 : decode cX0_clampsAllow 53 = .ok (.iconst 0, 1) := by decide +kernel
theorem dX0_clampsAllow_54 : decode cX0_clampsAllow 54 = .ok (.ireturn, 1) := by decide +kernel
theorem dX0_clampsAllow_55 : decode cX0_clampsAllow 55 = .ok (.iinc 2 1, 3) := by decide +kernel
theorem dX0_clampsAllow_58 : decode cX0_clampsAllow 58 = .ok (.goto (-56), 3) := by decide +kernel
theorem dX0_clampsAllow_61 : decode cX0_clampsAllow 61 = .ok (.iconst 1, 1) := by decide +kernel
theorem dX0_clampsAllow_62 : decode cX0_clampsAllow 62 = .ok (.ireturn, 1) := by decide +kernel
set_option maxRecDepth 20000 in
theorem ggX0_bowAllows_X0_swingAtBow : GoodIn wsX0_bowAllows wsX0_swingAtBow := goodIn_r _ [6, 7, 8, 9, 10, 11, 12, 13, 14, 15, 16, 17, 18, 19, 20, 21, 22, 23, 24, 25, 26, 27, 28, 29, 30, 43, 44, 45, 46, 47] (by decide +kernel) (by decide +kernel)
set_option maxRecDepth 20000 in
theorem gX0_bowAllows_X0_swingAtBow : GoodIn wsX0_bowAllows (wsV RX0 51 RX0 yX0_swingAtBow wsX0_swingAtBow) := goodIn_app (goodIn_of _ (by decide +kernel)) ggX0_bowAllows_X0_swingAtBow
theorem dX0_bowAllows_0 : decode cX0_bowAllows 0 = .ok (.aload_n 0, 1) := by decide +kernel
theorem dX0_bowAllows_1 : decode cX0_bowAllows 1 = .ok (.iload_n 1, 1) := by decide +kernel
theorem dX0_bowAllows_2 : decode cX0_bowAllows 2 = .ok (.iload_n 2, 1) := by decide +kernel
theorem dX0_bowAllows_3 : decode cX0_bowAllows 3 = .ok (.iload_n 3, 1) := by decide +kernel
theorem dX0_bowAllows_4 : decode cX0_bowAllows 4 = .ok (.invokevirtual 51, 3) := by decide +kernel
theorem dX0_bowAllows_7 : decode cX0_bowAllows 7 = .ok (.aload_n 0, 1) := by decide +kernel
theorem dX0_bowAllows_8 : decode cX0_bowAllows 8 = .ok (.getfield 27, 3) := by decide +kernel
theorem dX0_bowAllows_11 : decode cX0_bowAllows 11 = .ok (.getfield 48, 3) := by decide +kernel
theorem dX0_bowAllows_14 : decode cX0_bowAllows 14 = .ok (.iconst 1, 1) := by decide +kernel
theorem dX0_bowAllows_15 : decode cX0_bowAllows 15 = .ok (.iaload, 1) := by decide +kernel
theorem dX0_bowAllows_16 : decode cX0_bowAllows 16 = .ok (.if_icmp .lt 7, 3) := by decide +kernel
theorem dX0_bowAllows_19 : decode cX0_bowAllows 19 = .ok (.iconst 1, 1) := by decide +kernel
theorem dX0_bowAllows_20 : decode cX0_bowAllows 20 = .ok (.goto 4, 3) := by decide +kernel
theorem dX0_bowAllows_23 : decode cX0_bowAllows 23 = .ok (.iconst 0, 1) := by decide +kernel
theorem dX0_bowAllows_24 : decode cX0_bowAllows 24 = .ok (.ireturn, 1) := by decide +kernel
set_option maxRecDepth 20000 in
theorem ggX0_swingAtBow_X7_swingAt : GoodIn wsX0_swingAtBow wsX7_swingAt := goodIn_r _ [6, 7, 8, 9, 10, 11, 12, 13, 14, 15, 16, 17, 18, 19, 25, 26, 27, 28, 29] (by decide +kernel) (by decide +kernel)
set_option maxRecDepth 20000 in
theorem gX0_swingAtBow_X7_swingAt : GoodIn wsX0_swingAtBow (wsV RX0 42 RX7 yX7_swingAt wsX7_swingAt) := goodIn_app (goodIn_of _ (by decide +kernel)) ggX0_swingAtBow_X7_swingAt
theorem dX0_swingAtBow_0 : decode cX0_swingAtBow 0 = .ok (.iload_n 2, 1) := by decide +kernel
theorem dX0_swingAtBow_1 : decode cX0_swingAtBow 1 = .ok (.tableswitch 62 0 2 #[27, 38, 50], 27) := by decide +kernel
theorem dX0_swingAtBow_28 : decode cX0_swingAtBow 28 = .ok (.aload_n 0, 1) := by decide +kernel
theorem dX0_swingAtBow_29 : decode cX0_swingAtBow 29 = .ok (.getfield 23, 3) := by decide +kernel
theorem dX0_swingAtBow_32 : decode cX0_swingAtBow 32 = .ok (.iload_n 1, 1) := by decide +kernel
theorem dX0_swingAtBow_33 : decode cX0_swingAtBow 33 = .ok (.iload_n 3, 1) := by decide +kernel
theorem dX0_swingAtBow_34 : decode cX0_swingAtBow 34 = .ok (.iconst 0, 1) := by decide +kernel
theorem dX0_swingAtBow_35 : decode cX0_swingAtBow 35 = .ok (.invokevirtual 42, 3) := by decide +kernel
theorem dX0_swingAtBow_38 : decode cX0_swingAtBow 38 = .ok (.ireturn, 1) := by decide +kernel
theorem dX0_swingAtBow_39 : decode cX0_swingAtBow 39 = .ok (.aload_n 0, 1) := by decide +kernel
theorem dX0_swingAtBow_40 : decode cX0_swingAtBow 40 = .ok (.getfield 23, 3) := by decide +kernel
theorem dX0_swingAtBow_43 : decode cX0_swingAtBow 43 = .ok (.iload_n 1, 1) := by decide +kernel
theorem dX0_swingAtBow_44 : decode cX0_swingAtBow 44 = .ok (.bipush 11, 2) := by decide +kernel
theorem dX0_swingAtBow_46 : decode cX0_swingAtBow 46 = .ok (.iload_n 3, 1) := by decide +kernel
theorem dX0_swingAtBow_47 : decode cX0_swingAtBow 47 = .ok (.invokevirtual 42, 3) := by decide +kernel
theorem dX0_swingAtBow_50 : decode cX0_swingAtBow 50 = .ok (.ireturn, 1) := by decide +kernel
theorem dX0_swingAtBow_51 : decode cX0_swingAtBow 51 = .ok (.aload_n 0, 1) := by decide +kernel
theorem dX0_swingAtBow_52 : decode cX0_swingAtBow 52 = .ok (.getfield 23, 3) := by decide +kernel
theorem dX0_swingAtBow_55 : decode cX0_swingAtBow 55 = .ok (.iload_n 1, 1) := by decide +kernel
theorem dX0_swingAtBow_56 : decode cX0_swingAtBow 56 = .ok (.iload_n 3, 1) := by decide +kernel
theorem dX0_swingAtBow_57 : decode cX0_swingAtBow 57 = .ok (.bipush 11, 2) := by decide +kernel
theorem dX0_swingAtBow_59 : decode cX0_swingAtBow 59 = .ok (.invokevirtual 42, 3) := by decide +kernel
theorem dX0_swingAtBow_62 : decode cX0_swingAtBow 62 = .ok (.ireturn, 1) := by decide +kernel
theorem dX0_swingAtBow_63 : decode cX0_swingAtBow 63 = .ok (.aload_n 0, 1) := by decide +kernel
theorem dX0_swingAtBow_64 : decode cX0_swingAtBow 64 = .ok (.getfield 23, 3) := by decide +kernel
theorem dX0_swingAtBow_67 : decode cX0_swingAtBow 67 = .ok (.iload_n 1, 1) := by decide +kernel
theorem dX0_swingAtBow_68 : decode cX0_swingAtBow 68 = .ok (.iconst 0, 1) := by decide +kernel
theorem dX0_swingAtBow_69 : decode cX0_swingAtBow 69 = .ok (.iload_n 3, 1) := by decide +kernel
theorem dX0_swingAtBow_70 : decode cX0_swingAtBow 70 = .ok (.invokevirtual 42, 3) := by decide +kernel
theorem dX0_swingAtBow_73 : decode cX0_swingAtBow 73 = .ok (.ireturn, 1) := by decide +kernel
set_option maxRecDepth 20000 in
theorem ggX0_wayFor_X0_bowAllows : GoodIn wsX0_wayFor wsX0_bowAllows := goodIn_r _ [5, 6, 7, 8, 9, 4, 10, 11, 12, 13, 14, 15, 16, 17, 18, 19, 20, 21, 22, 23, 24, 25, 26, 27, 28, 29, 34, 35, 36, 37, 38, 39, 40, 41, 42, 43, 44, 45, 46, 47, 48, 49, 50, 51, 52, 53, 54, 55] (by decide +kernel) (by decide +kernel)
set_option maxRecDepth 20000 in
theorem gX0_wayFor_X0_bowAllows : GoodIn wsX0_wayFor (wsV RX0 54 RX0 yX0_bowAllows wsX0_bowAllows) := goodIn_app (goodIn_of _ (by decide +kernel)) ggX0_wayFor_X0_bowAllows
set_option maxRecDepth 20000 in
theorem ggX0_wayFor_X0_clampsAllow : GoodIn wsX0_wayFor wsX0_clampsAllow := goodIn_r _ [33, 6, 11, 12, 13, 14, 15, 16, 17, 18, 19, 20, 21, 22, 23, 24, 25, 26, 27, 28, 29, 34, 35, 36, 37, 38, 39, 40, 41, 42, 43, 44, 45, 46, 47, 48, 49, 50, 51, 52, 53, 54, 55] (by decide +kernel) (by decide +kernel)
set_option maxRecDepth 20000 in
theorem gX0_wayFor_X0_clampsAllow : GoodIn wsX0_wayFor (wsV RX0 58 RX0 yX0_clampsAllow wsX0_clampsAllow) := goodIn_app (goodIn_of _ (by decide +kernel)) ggX0_wayFor_X0_clampsAllow
theorem dX0_wayFor_0 : decode cX0_wayFor 0 = .ok (.iconst 0, 1) := by decide +kernel
theorem dX0_wayFor_1 : decode cX0_wayFor 1 = .ok (.istore_n 3, 1) := by decide +kernel
theorem dX0_wayFor_2 : decode cX0_wayFor 2 = .ok (.iload_n 3, 1) := by decide +kernel
theorem dX0_wayFor_3 : decode cX0_wayFor 3 = .ok (.bipush 48, 2) := by decide +kernel
theorem dX0_wayFor_5 : decode cX0_wayFor 5 = .ok (.if_icmp .ge 29, 3) := by decide +kernel
theorem dX0_wayFor_8 : decode cX0_wayFor 8 = .ok (.aload_n 0, 1) := by decide +kernel
theorem dX0_wayFor_9 : decode cX0_wayFor 9 = .ok (.iload_n 3, 1) := by decide +kernel
theorem dX0_wayFor_10 : decode cX0_wayFor 10 = .ok (.iload_n 1, 1) := by decide +kernel
theorem dX0_wayFor_11 : decode cX0_wayFor 11 = .ok (.iload_n 2, 1) := by decide +kernel
theorem dX0_wayFor_12 : decode cX0_wayFor 12 = .ok (.invokevirtual 54, 3) := by decide +kernel
theorem dX0_wayFor_15 : decode cX0_wayFor 15 = .ok (.ifCond .eq 13, 3) := by decide +kernel
theorem dX0_wayFor_18 : decode cX0_wayFor 18 = .ok (.aload_n 0, 1) := by decide +kernel
theorem dX0_wayFor_19 : decode cX0_wayFor 19 = .ok (.iload_n 3, 1) := by decide +kernel
theorem dX0_wayFor_20 : decode cX0_wayFor 20 = .ok (.invokevirtual 58, 3) := by decide +kernel
theorem dX0_wayFor_23 : decode cX0_wayFor 23 = .ok (.ifCond .eq 5, 3) := by decide +kernel
theorem dX0_wayFor_26 : decode cX0_wayFor 26 = .ok (.iload_n 3, 1) := by decide +kernel
theorem dX0_wayFor_27 : decode cX0_wayFor 27 = .ok (.ireturn, 1) := by decide +kernel
theorem dX0_wayFor_28 : decode cX0_wayFor 28 = .ok (.iinc 3 1, 3) := by decide +kernel
theorem dX0_wayFor_31 : decode cX0_wayFor 31 = .ok (.goto (-29), 3) := by decide +kernel
theorem dX0_wayFor_34 : decode cX0_wayFor 34 = .ok (.iconst (-1), 1) := by decide +kernel
theorem dX0_wayFor_35 : decode cX0_wayFor 35 = .ok (.ireturn, 1) := by decide +kernel
set_option maxRecDepth 20000 in
theorem ggX0_reasonOf_X0_clampsAllow : GoodIn wsX0_reasonOf wsX0_clampsAllow := goodIn_r _ [5, 6, 7, 8, 9, 10, 11, 12, 13, 14, 15, 16, 17, 18, 19, 20, 21, 22, 23, 24, 25, 38, 39, 40, 41, 42, 43, 44, 45, 46, 47, 48, 49, 50, 51, 52, 53, 54, 55, 56, 57, 58, 59] (by decide +kernel) (by decide +kernel)
set_option maxRecDepth 20000 in
theorem gX0_reasonOf_X0_clampsAllow : GoodIn wsX0_reasonOf (wsV RX0 58 RX0 yX0_clampsAllow wsX0_clampsAllow) := goodIn_app (goodIn_of _ (by decide +kernel)) ggX0_reasonOf_X0_clampsAllow
set_option maxRecDepth 20000 in
theorem ggX0_reasonOf_X0_bowAllows : GoodIn wsX0_reasonOf wsX0_bowAllows := goodIn_r _ [29, 6, 30, 31, 32, 4, 33, 7, 8, 9, 10, 11, 12, 13, 14, 15, 16, 17, 18, 19, 20, 21, 22, 23, 24, 25, 38, 39, 40, 41, 42, 43, 44, 45, 46, 47, 48, 49, 50, 51, 52, 53, 54, 55, 56, 57, 58, 59] (by decide +kernel) (by decide +kernel)
set_option maxRecDepth 20000 in
theorem gX0_reasonOf_X0_bowAllows : GoodIn wsX0_reasonOf (wsV RX0 54 RX0 yX0_bowAllows wsX0_bowAllows) := goodIn_app (goodIn_of _ (by decide +kernel)) ggX0_reasonOf_X0_bowAllows
set_option maxRecDepth 20000 in
theorem ggX0_reasonOf_X0_wayFor : GoodIn wsX0_reasonOf wsX0_wayFor := goodIn_r _ [37, 26, 27, 28, 4, 29, 6, 30, 31, 32, 33, 7, 8, 9, 10, 11, 12, 13, 14, 15, 16, 17, 18, 19, 20, 21, 22, 23, 24, 25, 1, 2, 3, 5, 38, 39, 40, 41, 42, 43, 44, 45, 46, 47, 48, 49, 50, 51, 52, 53, 54, 55, 56, 57, 58, 59] (by decide +kernel) (by decide +kernel)
set_option maxRecDepth 20000 in
theorem gX0_reasonOf_X0_wayFor : GoodIn wsX0_reasonOf (wsV RX0 62 RX0 yX0_wayFor wsX0_wayFor) := goodIn_app (goodIn_of _ (by decide +kernel)) ggX0_reasonOf_X0_wayFor
theorem dX0_reasonOf_0 : decode cX0_reasonOf 0 = .ok (.aload_n 0, 1) := by decide +kernel
theorem dX0_reasonOf_1 : decode cX0_reasonOf 1 = .ok (.iload_n 1, 1) := by decide +kernel
theorem dX0_reasonOf_2 : decode cX0_reasonOf 2 = .ok (.invokevirtual 58, 3) := by decide +kernel
theorem dX0_reasonOf_5 : decode cX0_reasonOf 5 = .ok (.ifCond .ne 5, 3) := by decide +kernel
theorem dX0_reasonOf_8 : decode cX0_reasonOf 8 = .ok (.iconst 1, 1) := by decide +kernel
theorem dX0_reasonOf_9 : decode cX0_reasonOf 9 = .ok (.ireturn, 1) := by decide +kernel
theorem dX0_reasonOf_10 : decode cX0_reasonOf 10 = .ok (.aload_n 0, 1) := by decide +kernel
theorem dX0_reasonOf_11 : decode cX0_reasonOf 11 = .ok (.iload_n 1, 1) := by decide +kernel
theorem dX0_reasonOf_12 : decode cX0_reasonOf 12 = .ok (.iload_n 2, 1) := by decide +kernel
theorem dX0_reasonOf_13 : decode cX0_reasonOf 13 = .ok (.iload_n 3, 1) := by decide +kernel
theorem dX0_reasonOf_14 : decode cX0_reasonOf 14 = .ok (.invokevirtual 54, 3) := by decide +kernel
theorem dX0_reasonOf_17 : decode cX0_reasonOf 17 = .ok (.ifCond .ne 5, 3) := by decide +kernel
theorem dX0_reasonOf_20 : decode cX0_reasonOf 20 = .ok (.iconst 2, 1) := by decide +kernel
theorem dX0_reasonOf_21 : decode cX0_reasonOf 21 = .ok (.ireturn, 1) := by decide +kernel
theorem dX0_reasonOf_22 : decode cX0_reasonOf 22 = .ok (.aload_n 0, 1) := by decide +kernel
theorem dX0_reasonOf_23 : decode cX0_reasonOf 23 = .ok (.iload_n 2, 1) := by decide +kernel
theorem dX0_reasonOf_24 : decode cX0_reasonOf 24 = .ok (.iload_n 3, 1) := by decide +kernel
theorem dX0_reasonOf_25 : decode cX0_reasonOf 25 = .ok (.invokevirtual 62, 3) := by decide +kernel
theorem dX0_reasonOf_28 : decode cX0_reasonOf 28 = .ok (.iload_n 1, 1) := by decide +kernel
theorem dX0_reasonOf_29 : decode cX0_reasonOf 29 = .ok (.if_icmp .ne 7, 3) := by decide +kernel
theorem dX0_reasonOf_32 : decode cX0_reasonOf 32 = .ok (.iconst 0, 1) := by decide +kernel
theorem dX0_reasonOf_33 : decode cX0_reasonOf 33 = .ok (.goto 4, 3) := by decide +kernel
theorem dX0_reasonOf_36 : decode cX0_reasonOf 36 = .ok (.iconst 3, 1) := by decide +kernel
theorem dX0_reasonOf_37 : decode cX0_reasonOf 37 = .ok (.ireturn, 1) := by decide +kernel
set_option maxRecDepth 20000 in
theorem ggX0_findPossible_X0_clampsAllow : GoodIn wsX0_findPossible wsX0_clampsAllow := goodIn_r _ [8, 9, 10, 11, 12, 13, 14, 15, 16, 17, 18, 19, 20, 21, 22, 23, 24, 25, 26, 27, 28, 41, 42, 43, 44, 45, 46, 47, 48, 49, 50, 51, 52, 53, 54, 55, 56, 57, 58, 59, 60, 61, 62] (by decide +kernel) (by decide +kernel)
set_option maxRecDepth 20000 in
theorem gX0_findPossible_X0_clampsAllow : GoodIn wsX0_findPossible (wsV RX0 58 RX0 yX0_clampsAllow wsX0_clampsAllow) := goodIn_app (goodIn_of _ (by decide +kernel)) ggX0_findPossible_X0_clampsAllow
set_option maxRecDepth 20000 in
theorem ggX0_findPossible_X0_takesBow : GoodIn wsX0_findPossible wsX0_takesBow := goodIn_r _ [32, 1, 33, 34, 35, 7, 36, 9, 37, 38, 39, 40, 10, 11, 12, 13, 14, 15, 16, 17, 18, 19, 20, 21, 22, 23, 24, 25, 26, 27, 28, 41, 42, 43, 44, 45, 46, 47, 48, 49, 50, 51, 52, 53, 54, 55, 56, 57, 58, 59, 60, 61, 62] (by decide +kernel) (by decide +kernel)
set_option maxRecDepth 20000 in
theorem gX0_findPossible_X0_takesBow : GoodIn wsX0_findPossible (wsV RX0 66 RX0 yX0_takesBow wsX0_takesBow) := goodIn_app (goodIn_of _ (by decide +kernel)) ggX0_findPossible_X0_takesBow
theorem dX0_findPossible_0 : decode cX0_findPossible 0 = .ok (.iconst 0, 1) := by decide +kernel
theorem dX0_findPossible_1 : decode cX0_findPossible 1 = .ok (.istore_n 1, 1) := by decide +kernel
theorem dX0_findPossible_2 : decode cX0_findPossible 2 = .ok (.iload_n 1, 1) := by decide +kernel
theorem dX0_findPossible_3 : decode cX0_findPossible 3 = .ok (.bipush 48, 2) := by decide +kernel
theorem dX0_findPossible_5 : decode cX0_findPossible 5 = .ok (.if_icmp .ge 16, 3) := by decide +kernel
theorem dX0_findPossible_8 : decode cX0_findPossible 8 = .ok (.aload_n 0, 1) := by decide +kernel
theorem dX0_findPossible_9 : decode cX0_findPossible 9 = .ok (.getfield 19, 3) := by decide +kernel
theorem dX0_findPossible_12 : decode cX0_findPossible 12 = .ok (.iload_n 1, 1) := by decide +kernel
theorem dX0_findPossible_13 : decode cX0_findPossible 13 = .ok (.iconst 0, 1) := by decide +kernel
theorem dX0_findPossible_14 : decode cX0_findPossible 14 = .ok (.bastore, 1) := by decide +kernel
theorem dX0_findPossible_15 : decode cX0_findPossible 15 = .ok (.iinc 1 1, 3) := by decide +kernel
theorem dX0_findPossible_18 : decode cX0_findPossible 18 = .ok (.goto (-16), 3) := by decide +kernel
theorem dX0_findPossible_21 : decode cX0_findPossible 21 = .ok (.aload_n 0, 1) := by decide +kernel
theorem dX0_findPossible_22 : decode cX0_findPossible 22 = .ok (.iconst 0, 1) := by decide +kernel
theorem dX0_findPossible_23 : decode cX0_findPossible 23 = .ok (.putfield 15, 3) := by decide +kernel
theorem dX0_findPossible_26 : decode cX0_findPossible 26 = .ok (.iconst 0, 1) := by decide +kernel
theorem dX0_findPossible_27 : decode cX0_findPossible 27 = .ok (.istore_n 1, 1) := by decide +kernel
theorem dX0_findPossible_28 : decode cX0_findPossible 28 = .ok (.iload_n 1, 1) := by decide +kernel
theorem dX0_findPossible_29 : decode cX0_findPossible 29 = .ok (.bipush 48, 2) := by decide +kernel
theorem dX0_findPossible_31 : decode cX0_findPossible 31 = .ok (.if_icmp .ge 54, 3) := by decide +kernel
theorem dX0_findPossible_34 : decode cX0_findPossible 34 = .ok (.aload_n 0, 1) := by decide +kernel
theorem dX0_findPossible_35 : decode cX0_findPossible 35 = .ok (.iload_n 1, 1) := by decide +kernel
theorem dX0_findPossible_36 : decode cX0_findPossible 36 = .ok (.invokevirtual 58, 3) := by decide +kernel
theorem dX0_findPossible_39 : decode cX0_findPossible 39 = .ok (.ifCond .eq 40, 3) := by decide +kernel
theorem dX0_findPossible_42 : decode cX0_findPossible 42 = .ok (.aload_n 0, 1) := by decide +kernel
theorem dX0_findPossible_43 : decode cX0_findPossible 43 = .ok (.iload_n 1, 1) := by decide +kernel
theorem dX0_findPossible_44 : decode cX0_findPossible 44 = .ok (.invokevirtual 66, 3) := by decide +kernel
theorem dX0_findPossible_47 : decode cX0_findPossible 47 = .ok (.ifCond .eq 32, 3) := by decide +kernel
theorem dX0_findPossible_50 : decode cX0_findPossible 50 = .ok (.aload_n 0, 1) := by decide +kernel
theorem dX0_findPossible_51 : decode cX0_findPossible 51 = .ok (.getfield 15, 3) := by decide +kernel
theorem dX0_findPossible_54 : decode cX0_findPossible 54 = .ok (.bipush 48, 2) := by decide +kernel
theorem dX0_findPossible_56 : decode cX0_findPossible 56 = .ok (.if_icmp .ge 23, 3) := by decide +kernel
theorem dX0_findPossible_59 : decode cX0_findPossible 59 = .ok (.aload_n 0, 1) := by decide +kernel
theorem dX0_findPossible_60 : decode cX0_findPossible 60 = .ok (.getfield 9, 3) := by decide +kernel
theorem dX0_findPossible_63 : decode cX0_findPossible 63 = .ok (.aload_n 0, 1) := by decide +kernel
theorem dX0_findPossible_64 : decode cX0_findPossible 64 = .ok (.getfield 15, 3) := by decide +kernel
theorem dX0_findPossible_67 : decode cX0_findPossible 67 = .ok (.iload_n 1, 1) := by decide +kernel
theorem dX0_findPossible_68 : decode cX0_findPossible 68 = .ok (.iastore, 1) := by decide +kernel
theorem dX0_findPossible_69 : decode cX0_findPossible 69 = .ok (.aload_n 0, 1) := by decide +kernel
theorem dX0_findPossible_70 : decode cX0_findPossible 70 = .ok (.dup, 1) := by decide +kernel
theorem dX0_findPossible_71 : decode cX0_findPossible 71 = .ok (.getfield 15, 3) := by decide +kernel
theorem dX0_findPossible_74 : decode cX0_findPossible 74 = .ok (.iconst 1, 1) := by decide +kernel
theorem dX0_findPossible_75 : decode cX0_findPossible 75 = .ok (.iadd, 1) := by decide +kernel
theorem dX0_findPossible_76 : decode cX0_findPossible 76 = .ok (.putfield 15, 3) := by decide +kernel
theorem dX0_findPossible_79 : decode cX0_findPossible 79 = .ok (.iinc 1 1, 3) := by decide +kernel
theorem dX0_findPossible_82 : decode cX0_findPossible 82 = .ok (.goto (-54), 3) := by decide +kernel
theorem dX0_findPossible_85 : decode cX0_findPossible 85 = .ok (.return_, 1) := by decide +kernel
set_option maxRecDepth 20000 in
theorem ggX0_takesBow_X0_bowAllows : GoodIn wsX0_takesBow wsX0_bowAllows := goodIn_r _ [6, 7, 8, 9, 10, 5, 11, 12, 13, 14, 15, 16, 17, 18, 19, 20, 21, 22, 23, 24, 25, 26, 27, 28, 29, 30, 31, 32, 33, 34, 35, 36, 37, 38, 39, 40, 41, 42, 43, 44, 45, 46, 47, 48, 49, 50, 51, 52] (by decide +kernel) (by decide +kernel)
set_option maxRecDepth 20000 in
theorem gX0_takesBow_X0_bowAllows : GoodIn wsX0_takesBow (wsV RX0 54 RX0 yX0_bowAllows wsX0_bowAllows) := goodIn_app (goodIn_of _ (by decide +kernel)) ggX0_takesBow_X0_bowAllows
theorem dX0_takesBow_0 : decode cX0_takesBow 0 = .ok (.iconst 0, 1) := by decide +kernel
theorem dX0_takesBow_1 : decode cX0_takesBow 1 = .ok (.istore_n 2, 1) := by decide +kernel
theorem dX0_takesBow_2 : decode cX0_takesBow 2 = .ok (.iconst 0, 1) := by decide +kernel
theorem dX0_takesBow_3 : decode cX0_takesBow 3 = .ok (.istore_n 3, 1) := by decide +kernel
theorem dX0_takesBow_4 : decode cX0_takesBow 4 = .ok (.iload_n 3, 1) := by decide +kernel
theorem dX0_takesBow_5 : decode cX0_takesBow 5 = .ok (.bipush 48, 2) := by decide +kernel
theorem dX0_takesBow_7 : decode cX0_takesBow 7 = .ok (.if_icmp .ge 43, 3) := by decide +kernel
theorem dX0_takesBow_10 : decode cX0_takesBow 10 = .ok (.aload_n 0, 1) := by decide +kernel
theorem dX0_takesBow_11 : decode cX0_takesBow 11 = .ok (.getfield 19, 3) := by decide +kernel
theorem dX0_takesBow_14 : decode cX0_takesBow 14 = .ok (.iload_n 3, 1) := by decide +kernel
theorem dX0_takesBow_15 : decode cX0_takesBow 15 = .ok (.baload, 1) := by decide +kernel
theorem dX0_takesBow_16 : decode cX0_takesBow 16 = .ok (.ifCond .ne 28, 3) := by decide +kernel
theorem dX0_takesBow_19 : decode cX0_takesBow 19 = .ok (.aload_n 0, 1) := by decide +kernel
theorem dX0_takesBow_20 : decode cX0_takesBow 20 = .ok (.iload_n 1, 1) := by decide +kernel
theorem dX0_takesBow_21 : decode cX0_takesBow 21 = .ok (.iload_n 3, 1) := by decide +kernel
theorem dX0_takesBow_22 : decode cX0_takesBow 22 = .ok (.bipush 12, 2) := by decide +kernel
theorem dX0_takesBow_24 : decode cX0_takesBow 24 = .ok (.idiv, 1) := by decide +kernel
theorem dX0_takesBow_25 : decode cX0_takesBow 25 = .ok (.iload_n 3, 1) := by decide +kernel
theorem dX0_takesBow_26 : decode cX0_takesBow 26 = .ok (.bipush 12, 2) := by decide +kernel
theorem dX0_takesBow_28 : decode cX0_takesBow 28 = .ok (.irem, 1) := by decide +kernel
theorem dX0_takesBow_29 : decode cX0_takesBow 29 = .ok (.invokevirtual 54, 3) := by decide +kernel
theorem dX0_takesBow_32 : decode cX0_takesBow 32 = .ok (.ifCond .eq 12, 3) := by decide +kernel
theorem dX0_takesBow_35 : decode cX0_takesBow 35 = .ok (.aload_n 0, 1) := by decide +kernel
theorem dX0_takesBow_36 : decode cX0_takesBow 36 = .ok (.getfield 19, 3) := by decide +kernel
theorem dX0_takesBow_39 : decode cX0_takesBow 39 = .ok (.iload_n 3, 1) := by decide +kernel
theorem dX0_takesBow_40 : decode cX0_takesBow 40 = .ok (.iconst 1, 1) := by decide +kernel
theorem dX0_takesBow_41 : decode cX0_takesBow 41 = .ok (.bastore, 1) := by decide +kernel
theorem dX0_takesBow_42 : decode cX0_takesBow 42 = .ok (.iconst 1, 1) := by decide +kernel
theorem dX0_takesBow_43 : decode cX0_takesBow 43 = .ok (.istore_n 2, 1) := by decide +kernel
theorem dX0_takesBow_44 : decode cX0_takesBow 44 = .ok (.iinc 3 1, 3) := by decide +kernel
theorem dX0_takesBow_47 : decode cX0_takesBow 47 = .ok (.goto (-43), 3) := by decide +kernel
theorem dX0_takesBow_50 : decode cX0_takesBow 50 = .ok (.iload_n 2, 1) := by decide +kernel
theorem dX0_takesBow_51 : decode cX0_takesBow 51 = .ok (.ireturn, 1) := by decide +kernel
theorem dX1_init_0 : decode cX1_init 0 = .ok (.aload_n 0, 1) := by decide +kernel
theorem dX1_init_1 : decode cX1_init 1 = .ok (.invokespecial 3, 3) := by decide +kernel
theorem dX1_init_4 : decode cX1_init 4 = .ok (.aload_n 0, 1) := by decide +kernel
theorem dX1_init_5 : decode cX1_init 5 = .ok (.sipush 144, 3) := by decide +kernel
theorem dX1_init_8 : decode cX1_init 8 = .ok (.newarray .boolean, 2) := by decide +kernel
theorem dX1_init_10 : decode cX1_init 10 = .ok (.putfield 9, 3) := by decide +kernel
theorem dX1_init_13 : decode cX1_init 13 = .ok (.aload_n 0, 1) := by decide +kernel
theorem dX1_init_14 : decode cX1_init 14 = .ok (.sipush 144, 3) := by decide +kernel
theorem dX1_init_17 : decode cX1_init 17 = .ok (.newarray .int, 2) := by decide +kernel
theorem dX1_init_19 : decode cX1_init 19 = .ok (.putfield 15, 3) := by decide +kernel
theorem dX1_init_22 : decode cX1_init 22 = .ok (.aload_n 0, 1) := by decide +kernel
theorem dX1_init_23 : decode cX1_init 23 = .ok (.iconst 0, 1) := by decide +kernel
theorem dX1_init_24 : decode cX1_init 24 = .ok (.putfield 19, 3) := by decide +kernel
theorem dX1_init_27 : decode cX1_init 27 = .ok (.aload_n 0, 1) := by decide +kernel
theorem dX1_init_28 : decode cX1_init 28 = .ok (.aload_n 1, 1) := by decide +kernel
theorem dX1_init_29 : decode cX1_init 29 = .ok (.putfield 23, 3) := by decide +kernel
theorem dX1_init_32 : decode cX1_init 32 = .ok (.aload_n 0, 1) := by decide +kernel
theorem dX1_init_33 : decode cX1_init 33 = .ok (.aload_n 2, 1) := by decide +kernel
theorem dX1_init_34 : decode cX1_init 34 = .ok (.putfield 27, 3) := by decide +kernel
theorem dX1_init_37 : decode cX1_init 37 = .ok (.return_, 1) := by decide +kernel
set_option maxRecDepth 20000 in
theorem ggX1_isStill_X7_swingAt : GoodIn wsX1_isStill wsX7_swingAt := goodIn_r _ [7, 8, 9, 10, 11, 12, 13, 14, 15, 16, 17, 18, 19, 20, 38, 39, 40, 41, 42] (by decide +kernel) (by decide +kernel)
set_option maxRecDepth 20000 in
theorem gX1_isStill_X7_swingAt : GoodIn wsX1_isStill (wsV RX1 31 RX7 yX7_swingAt wsX7_swingAt) := goodIn_app (goodIn_of _ (by decide +kernel)) ggX1_isStill_X7_swingAt
theorem dX1_isStill_0 : decode cX1_isStill 0 = .ok (.aload_n 0, 1) := by decide +kernel
theorem dX1_isStill_1 : decode cX1_isStill 1 = .ok (.getfield 23, 3) := by decide +kernel
theorem dX1_isStill_4 : decode cX1_isStill 4 = .ok (.iload_n 1, 1) := by decide +kernel
theorem dX1_isStill_5 : decode cX1_isStill 5 = .ok (.iload_n 2, 1) := by decide +kernel
theorem dX1_isStill_6 : decode cX1_isStill 6 = .ok (.iload_n 3, 1) := by decide +kernel
theorem dX1_isStill_7 : decode cX1_isStill 7 = .ok (.invokevirtual 31, 3) := by decide +kernel
theorem dX1_isStill_10 : decode cX1_isStill 10 = .ok (.aload_n 0, 1) := by decide +kernel
theorem dX1_isStill_11 : decode cX1_isStill 11 = .ok (.getfield 27, 3) := by decide +kernel
theorem dX1_isStill_14 : decode cX1_isStill 14 = .ok (.getfield 37, 3) := by decide +kernel
theorem dX1_isStill_17 : decode cX1_isStill 17 = .ok (.iconst 2, 1) := by decide +kernel
theorem dX1_isStill_18 : decode cX1_isStill 18 = .ok (.iaload, 1) := by decide +kernel
theorem dX1_isStill_19 : decode cX1_isStill 19 = .ok (.if_icmp .gt 7, 3) := by decide +kernel
theorem dX1_isStill_22 : decode cX1_isStill 22 = .ok (.iconst 1, 1) := by decide +kernel
theorem dX1_isStill_23 : decode cX1_isStill 23 = .ok (.goto 4, 3) := by decide +kernel
theorem dX1_isStill_26 : decode cX1_isStill 26 = .ok (.iconst 0, 1) := by decide +kernel
theorem dX1_isStill_27 : decode cX1_isStill 27 = .ok (.ireturn, 1) := by decide +kernel
set_option maxRecDepth 20000 in
theorem ggX1_stillPlaces_X8_columnOf : GoodIn wsX1_stillPlaces wsX8_columnOf := goodIn_r _ [3] (by decide +kernel) (by decide +kernel)
set_option maxRecDepth 20000 in
theorem gX1_stillPlaces_X8_columnOf_n42 : GoodIn wsX1_stillPlaces (wsX8_columnOf) := ggX1_stillPlaces_X8_columnOf
set_option maxRecDepth 20000 in
theorem ggX1_stillPlaces_X8_rowOf : GoodIn wsX1_stillPlaces wsX8_rowOf := goodIn_r _ [5] (by decide +kernel) (by decide +kernel)
set_option maxRecDepth 20000 in
theorem gX1_stillPlaces_X8_rowOf_n46 : GoodIn wsX1_stillPlaces (wsX8_rowOf) := ggX1_stillPlaces_X8_rowOf
set_option maxRecDepth 20000 in
theorem ggX1_stillPlaces_X1_isStill : GoodIn wsX1_stillPlaces wsX1_isStill := goodIn_r _ [10, 11, 12, 13, 14, 15, 16, 17, 18, 19, 20, 21, 22, 23, 24, 25, 26, 2, 27, 28, 29, 30, 31, 32, 33, 34, 35, 36, 37, 38, 39, 40, 41, 42, 43, 44, 45, 46, 47, 48, 49, 50, 51] (by decide +kernel) (by decide +kernel)
set_option maxRecDepth 20000 in
theorem gX1_stillPlaces_X1_isStill : GoodIn wsX1_stillPlaces (wsV RX1 49 RX1 yX1_isStill wsX1_isStill) := goodIn_app (goodIn_of _ (by decide +kernel)) ggX1_stillPlaces_X1_isStill
theorem dX1_stillPlaces_0 : decode cX1_stillPlaces 0 = .ok (.iconst 0, 1) := by decide +kernel
theorem dX1_stillPlaces_1 : decode cX1_stillPlaces 1 = .ok (.istore_n 2, 1) := by decide +kernel
theorem dX1_stillPlaces_2 : decode cX1_stillPlaces 2 = .ok (.iconst 0, 1) := by decide +kernel
theorem dX1_stillPlaces_3 : decode cX1_stillPlaces 3 = .ok (.istore_n 3, 1) := by decide +kernel
theorem dX1_stillPlaces_4 : decode cX1_stillPlaces 4 = .ok (.iload_n 3, 1) := by decide +kernel
theorem dX1_stillPlaces_5 : decode cX1_stillPlaces 5 = .ok (.sipush 144, 3) := by decide +kernel
theorem dX1_stillPlaces_8 : decode cX1_stillPlaces 8 = .ok (.if_icmp .ge 28, 3) := by decide +kernel
theorem dX1_stillPlaces_11 : decode cX1_stillPlaces 11 = .ok (.aload_n 0, 1) := by decide +kernel
theorem dX1_stillPlaces_12 : decode cX1_stillPlaces 12 = .ok (.iload_n 1, 1) := by decide +kernel
theorem dX1_stillPlaces_13 : decode cX1_stillPlaces 13 = .ok (.iload_n 3, 1) := by decide +kernel
theorem dX1_stillPlaces_14 : decode cX1_stillPlaces 14 = .ok (.invokestatic 42, 3) := by decide +kernel
theorem dX1_stillPlaces_17 : decode cX1_stillPlaces 17 = .ok (.iload_n 3, 1) := by decide +kernel
theorem dX1_stillPlaces_18 : decode cX1_stillPlaces 18 = .ok (.invokestatic 46, 3) := by decide +kernel
theorem dX1_stillPlaces_21 : decode cX1_stillPlaces 21 = .ok (.invokevirtual 49, 3) := by decide +kernel
theorem dX1_stillPlaces_24 : decode cX1_stillPlaces 24 = .ok (.ifCond .eq 6, 3) := by decide +kernel
theorem dX1_stillPlaces_27 : decode cX1_stillPlaces 27 = .ok (.iinc 2 1, 3) := by decide +kernel
theorem dX1_stillPlaces_30 : decode cX1_stillPlaces 30 = .ok (.iinc 3 1, 3) := by decide +kernel
theorem dX1_stillPlaces_33 : decode cX1_stillPlaces 33 = .ok (.goto (-29), 3) := by decide +kernel
theorem dX1_stillPlaces_36 : decode cX1_stillPlaces 36 = .ok (.iload_n 2, 1) := by decide +kernel
theorem dX1_stillPlaces_37 : decode cX1_stillPlaces 37 = .ok (.ireturn, 1) := by decide +kernel
set_option maxRecDepth 20000 in
theorem ggX1_grainsOnLines_X8_columnOf : GoodIn wsX1_grainsOnLines wsX8_columnOf := goodIn_r _ [4] (by decide +kernel) (by decide +kernel)
set_option maxRecDepth 20000 in
theorem gX1_grainsOnLines_X8_columnOf_n42 : GoodIn wsX1_grainsOnLines (wsX8_columnOf) := ggX1_grainsOnLines_X8_columnOf
set_option maxRecDepth 20000 in
theorem ggX1_grainsOnLines_X8_rowOf : GoodIn wsX1_grainsOnLines wsX8_rowOf := goodIn_r _ [6] (by decide +kernel) (by decide +kernel)
set_option maxRecDepth 20000 in
theorem gX1_grainsOnLines_X8_rowOf_n46 : GoodIn wsX1_grainsOnLines (wsX8_rowOf) := ggX1_grainsOnLines_X8_rowOf
set_option maxRecDepth 20000 in
theorem ggX1_grainsOnLines_X1_isStill : GoodIn wsX1_grainsOnLines wsX1_isStill := goodIn_r _ [11, 12, 1, 13, 14, 15, 16, 17, 18, 19, 20, 21, 22, 23, 24, 25, 26, 3, 27, 28, 29, 30, 31, 32, 33, 34, 35, 36, 37, 38, 39, 40, 41, 42, 43, 44, 45, 46, 47, 48, 49, 50, 51] (by decide +kernel) (by decide +kernel)
set_option maxRecDepth 20000 in
theorem gX1_grainsOnLines_X1_isStill : GoodIn wsX1_grainsOnLines (wsV RX1 49 RX1 yX1_isStill wsX1_isStill) := goodIn_app (goodIn_of _ (by decide +kernel)) ggX1_grainsOnLines_X1_isStill
theorem dX1_grainsOnLines_0 : decode cX1_grainsOnLines 0 = .ok (.iconst 0, 1) := by decide +kernel
theorem dX1_grainsOnLines_1 : decode cX1_grainsOnLines 1 = .ok (.istore_n 2, 1) := by decide +kernel
theorem dX1_grainsOnLines_2 : decode cX1_grainsOnLines 2 = .ok (.iconst 0, 1) := by decide +kernel
theorem dX1_grainsOnLines_3 : decode cX1_grainsOnLines 3 = .ok (.istore_n 3, 1) := by decide +kernel
theorem dX1_grainsOnLines_4 : decode cX1_grainsOnLines 4 = .ok (.iload_n 3, 1) := by decide +kernel
theorem dX1_grainsOnLines_5 : decode cX1_grainsOnLines 5 = .ok (.sipush 144, 3) := by decide +kernel
theorem dX1_grainsOnLines_8 : decode cX1_grainsOnLines 8 = .ok (.if_icmp .ge 37, 3) := by decide +kernel
theorem dX1_grainsOnLines_11 : decode cX1_grainsOnLines 11 = .ok (.aload_n 0, 1) := by decide +kernel
theorem dX1_grainsOnLines_12 : decode cX1_grainsOnLines 12 = .ok (.iload_n 1, 1) := by decide +kernel
theorem dX1_grainsOnLines_13 : decode cX1_grainsOnLines 13 = .ok (.iload_n 3, 1) := by decide +kernel
theorem dX1_grainsOnLines_14 : decode cX1_grainsOnLines 14 = .ok (.invokestatic 42, 3) := by decide +kernel
theorem dX1_grainsOnLines_17 : decode cX1_grainsOnLines 17 = .ok (.iload_n 3, 1) := by decide +kernel
theorem dX1_grainsOnLines_18 : decode cX1_grainsOnLines 18 = .ok (.invokestatic 46, 3) := by decide +kernel
theorem dX1_grainsOnLines_21 : decode cX1_grainsOnLines 21 = .ok (.invokevirtual 49, 3) := by decide +kernel
theorem dX1_grainsOnLines_24 : decode cX1_grainsOnLines 24 = .ok (.ifCond .eq 15, 3) := by decide +kernel
theorem dX1_grainsOnLines_27 : decode cX1_grainsOnLines 27 = .ok (.iload_n 2, 1) := by decide +kernel
theorem dX1_grainsOnLines_28 : decode cX1_grainsOnLines 28 = .ok (.aload_n 0, 1) := by decide +kernel
theorem dX1_grainsOnLines_29 : decode cX1_grainsOnLines 29 = .ok (.getfield 27, 3) := by decide +kernel
theorem dX1_grainsOnLines_32 : decode cX1_grainsOnLines 32 = .ok (.getfield 53, 3) := by decide +kernel
theorem dX1_grainsOnLines_35 : decode cX1_grainsOnLines 35 = .ok (.iload_n 3, 1) := by decide +kernel
theorem dX1_grainsOnLines_36 : decode cX1_grainsOnLines 36 = .ok (.iaload, 1) := by decide +kernel
theorem dX1_grainsOnLines_37 : decode cX1_grainsOnLines 37 = .ok (.iadd, 1) := by decide +kernel
theorem dX1_grainsOnLines_38 : decode cX1_grainsOnLines 38 = .ok (.istore_n 2, 1) := by decide +kernel
theorem dX1_grainsOnLines_39 : decode cX1_grainsOnLines 39 = .ok (.iinc 3 1, 3) := by decide +kernel
theorem dX1_grainsOnLines_42 : decode cX1_grainsOnLines 42 = .ok (.goto (-38), 3) := by decide +kernel
theorem dX1_grainsOnLines_45 : decode cX1_grainsOnLines 45 = .ok (.iload_n 2, 1) := by decide +kernel
theorem dX1_grainsOnLines_46 : decode cX1_grainsOnLines 46 = .ok (.ireturn, 1) := by decide +kernel
set_option maxRecDepth 20000 in
theorem ggX1_lines_X8_columnOf : GoodIn wsX1_lines wsX8_columnOf := goodIn_r _ [4] (by decide +kernel) (by decide +kernel)
set_option maxRecDepth 20000 in
theorem gX1_lines_X8_columnOf_n42 : GoodIn wsX1_lines (wsX8_columnOf) := ggX1_lines_X8_columnOf
set_option maxRecDepth 20000 in
theorem ggX1_lines_X8_rowOf : GoodIn wsX1_lines wsX8_rowOf := goodIn_r _ [6] (by decide +kernel) (by decide +kernel)
set_option maxRecDepth 20000 in
theorem gX1_lines_X8_rowOf_n46 : GoodIn wsX1_lines (wsX8_rowOf) := ggX1_lines_X8_rowOf
set_option maxRecDepth 20000 in
theorem ggX1_lines_X1_isStill : GoodIn wsX1_lines wsX1_isStill := goodIn_r _ [11, 12, 13, 14, 15, 16, 17, 18, 19, 20, 21, 22, 23, 24, 25, 26, 27, 3, 28, 29, 30, 43, 44, 45, 46, 47, 48, 49, 50, 51, 52, 53, 54, 55, 56, 57, 58, 59, 60, 61, 62, 63, 64] (by decide +kernel) (by decide +kernel)
set_option maxRecDepth 20000 in
theorem gX1_lines_X1_isStill : GoodIn wsX1_lines (wsV RX1 49 RX1 yX1_isStill wsX1_isStill) := goodIn_app (goodIn_of _ (by decide +kernel)) ggX1_lines_X1_isStill
set_option maxRecDepth 20000 in
theorem ggX1_lines_X1_closeLine : GoodIn wsX1_lines wsX1_closeLine := goodIn_r _ [34, 35, 36, 2, 3, 4, 5, 6, 37, 38, 39, 10, 40, 1, 29, 30, 41, 42, 43, 44, 45, 46, 47] (by decide +kernel) (by decide +kernel)
set_option maxRecDepth 20000 in
theorem gX1_lines_X1_closeLine : GoodIn wsX1_lines (wsV RX1 56 RX1 yX1_closeLine wsX1_closeLine) := goodIn_app (goodIn_of _ (by decide +kernel)) ggX1_lines_X1_closeLine
theorem dX1_lines_0 : decode cX1_lines 0 = .ok (.iconst 0, 1) := by decide +kernel
theorem dX1_lines_1 : decode cX1_lines 1 = .ok (.istore_n 2, 1) := by decide +kernel
theorem dX1_lines_2 : decode cX1_lines 2 = .ok (.iload_n 2, 1) := by decide +kernel
theorem dX1_lines_3 : decode cX1_lines 3 = .ok (.sipush 144, 3) := by decide +kernel
theorem dX1_lines_6 : decode cX1_lines 6 = .ok (.if_icmp .ge 28, 3) := by decide +kernel
theorem dX1_lines_9 : decode cX1_lines 9 = .ok (.aload_n 0, 1) := by decide +kernel
theorem dX1_lines_10 : decode cX1_lines 10 = .ok (.getfield 9, 3) := by decide +kernel
theorem dX1_lines_13 : decode cX1_lines 13 = .ok (.iload_n 2, 1) := by decide +kernel
theorem dX1_lines_14 : decode cX1_lines 14 = .ok (.aload_n 0, 1) := by decide +kernel
theorem dX1_lines_15 : decode cX1_lines 15 = .ok (.iload_n 1, 1) := by decide +kernel
theorem dX1_lines_16 : decode cX1_lines 16 = .ok (.iload_n 2, 1) := by decide +kernel
theorem dX1_lines_17 : decode cX1_lines 17 = .ok (.invokestatic 42, 3) := by decide +kernel
theorem dX1_lines_20 : decode cX1_lines 20 = .ok (.iload_n 2, 1) := by decide +kernel
theorem dX1_lines_21 : decode cX1_lines 21 = .ok (.invokestatic 46, 3) := by decide +kernel
theorem dX1_lines_24 : decode cX1_lines 24 = .ok (.invokevirtual 49, 3) := by decide +kernel
theorem dX1_lines_27 : decode cX1_lines 27 = .ok (.bastore, 1) := by decide +kernel
theorem dX1_lines_28 : decode cX1_lines 28 = .ok (.iinc 2 1, 3) := by decide +kernel
theorem dX1_lines_31 : decode cX1_lines 31 = .ok (.goto (-29), 3) := by decide +kernel
theorem dX1_lines_34 : decode cX1_lines 34 = .ok (.iconst 0, 1) := by decide +kernel
theorem dX1_lines_35 : decode cX1_lines 35 = .ok (.istore_n 2, 1) := by decide +kernel
theorem dX1_lines_36 : decode cX1_lines 36 = .ok (.iconst 0, 1) := by decide +kernel
theorem dX1_lines_37 : decode cX1_lines 37 = .ok (.istore_n 3, 1) := by decide +kernel
theorem dX1_lines_38 : decode cX1_lines 38 = .ok (.iload_n 3, 1) := by decide +kernel
theorem dX1_lines_39 : decode cX1_lines 39 = .ok (.sipush 144, 3) := by decide +kernel
theorem dX1_lines_42 : decode cX1_lines 42 = .ok (.if_icmp .ge 26, 3) := by decide +kernel
theorem dX1_lines_45 : decode cX1_lines 45 = .ok (.aload_n 0, 1) := by decide +kernel
theorem dX1_lines_46 : decode cX1_lines 46 = .ok (.getfield 9, 3) := by decide +kernel
theorem dX1_lines_49 : decode cX1_lines 49 = .ok (.iload_n 3, 1) := by decide +kernel
theorem dX1_lines_50 : decode cX1_lines 50 = .ok (.baload, 1) := by decide +kernel
theorem dX1_lines_51 : decode cX1_lines 51 = .ok (.ifCond .eq 11, 3) := by decide +kernel
theorem dX1_lines_54 : decode cX1_lines 54 = .ok (.iinc 2 1, 3) := by decide +kernel
theorem dX1_lines_57 : decode cX1_lines 57 = .ok (.aload_n 0, 1) := by decide +kernel
theorem dX1_lines_58 : decode cX1_lines 58 = .ok (.iload_n 3, 1) := by decide +kernel
theorem dX1_lines_59 : decode cX1_lines 59 = .ok (.invokevirtual 56, 3) := by decide +kernel
theorem dX1_lines_62 : decode cX1_lines 62 = .ok (.iinc 3 1, 3) := by decide +kernel
theorem dX1_lines_65 : decode cX1_lines 65 = .ok (.goto (-27), 3) := by decide +kernel
theorem dX1_lines_68 : decode cX1_lines 68 = .ok (.iload_n 2, 1) := by decide +kernel
theorem dX1_lines_69 : decode cX1_lines 69 = .ok (.ireturn, 1) := by decide +kernel
set_option maxRecDepth 20000 in
theorem ggX1_closeLine_X8_columnOf : GoodIn wsX1_closeLine wsX8_columnOf := goodIn_r _ [5] (by decide +kernel) (by decide +kernel)
set_option maxRecDepth 20000 in
theorem gX1_closeLine_X8_columnOf_n42 : GoodIn wsX1_closeLine (wsX8_columnOf) := ggX1_closeLine_X8_columnOf
set_option maxRecDepth 20000 in
theorem ggX1_closeLine_X8_rowOf : GoodIn wsX1_closeLine wsX8_rowOf := goodIn_r _ [7] (by decide +kernel) (by decide +kernel)
set_option maxRecDepth 20000 in
theorem gX1_closeLine_X8_rowOf_n46 : GoodIn wsX1_closeLine (wsX8_rowOf) := ggX1_closeLine_X8_rowOf
set_option maxRecDepth 20000 in
theorem ggX1_closeLine_X1_reach : GoodIn wsX1_closeLine wsX1_reach := goodIn_r _ [12, 13, 1, 2, 14, 4, 15, 16, 17, 18, 19, 20, 21, 22] (by decide +kernel) (by decide +kernel)
set_option maxRecDepth 20000 in
theorem gX1_closeLine_X1_reach : GoodIn wsX1_closeLine (wsV RX1 60 RX1 yX1_reach wsX1_reach) := goodIn_app (goodIn_of _ (by decide +kernel)) ggX1_closeLine_X1_reach
theorem dX1_closeLine_0 : decode cX1_closeLine 0 = .ok (.aload_n 0, 1) := by decide +kernel
theorem dX1_closeLine_1 : decode cX1_closeLine 1 = .ok (.iconst 0, 1) := by decide +kernel
theorem dX1_closeLine_2 : decode cX1_closeLine 2 = .ok (.putfield 19, 3) := by decide +kernel
theorem dX1_closeLine_5 : decode cX1_closeLine 5 = .ok (.aload_n 0, 1) := by decide +kernel
theorem dX1_closeLine_6 : decode cX1_closeLine 6 = .ok (.iload_n 1, 1) := by decide +kernel
theorem dX1_closeLine_7 : decode cX1_closeLine 7 = .ok (.invokestatic 42, 3) := by decide +kernel
theorem dX1_closeLine_10 : decode cX1_closeLine 10 = .ok (.iload_n 1, 1) := by decide +kernel
theorem dX1_closeLine_11 : decode cX1_closeLine 11 = .ok (.invokestatic 46, 3) := by decide +kernel
theorem dX1_closeLine_14 : decode cX1_closeLine 14 = .ok (.invokevirtual 60, 3) := by decide +kernel
theorem dX1_closeLine_17 : decode cX1_closeLine 17 = .ok (.iconst 0, 1) := by decide +kernel
theorem dX1_closeLine_18 : decode cX1_closeLine 18 = .ok (.istore_n 2, 1) := by decide +kernel
theorem dX1_closeLine_19 : decode cX1_closeLine 19 = .ok (.iload_n 2, 1) := by decide +kernel
theorem dX1_closeLine_20 : decode cX1_closeLine 20 = .ok (.aload_n 0, 1) := by decide +kernel
theorem dX1_closeLine_21 : decode cX1_closeLine 21 = .ok (.getfield 19, 3) := by decide +kernel
theorem dX1_closeLine_24 : decode cX1_closeLine 24 = .ok (.if_icmp .ge 73, 3) := by decide +kernel
theorem dX1_closeLine_27 : decode cX1_closeLine 27 = .ok (.iload_n 2, 1) := by decide +kernel
theorem dX1_closeLine_28 : decode cX1_closeLine 28 = .ok (.sipush 144, 3) := by decide +kernel
theorem dX1_closeLine_31 : decode cX1_closeLine 31 = .ok (.if_icmp .ge 66, 3) := by decide +kernel
theorem dX1_closeLine_34 : decode cX1_closeLine 34 = .ok (.aload_n 0, 1) := by decide +kernel
theorem dX1_closeLine_35 : decode cX1_closeLine 35 = .ok (.getfield 15, 3) := by decide +kernel
theorem dX1_closeLine_38 : decode cX1_closeLine 38 = .ok (.iload_n 2, 1) := by decide +kernel
theorem dX1_closeLine_39 : decode cX1_closeLine 39 = .ok (.iaload, 1) := by decide +kernel
theorem dX1_closeLine_40 : decode cX1_closeLine 40 = .ok (.invokestatic 42, 3) := by decide +kernel
theorem dX1_closeLine_43 : decode cX1_closeLine 43 = .ok (.istore_n 3, 1) := by decide +kernel
theorem dX1_closeLine_44 : decode cX1_closeLine 44 = .ok (.aload_n 0, 1) := by decide +kernel
theorem dX1_closeLine_45 : decode cX1_closeLine 45 = .ok (.getfield 15, 3) := by decide +kernel
theorem dX1_closeLine_48 : decode cX1_closeLine 48 = .ok (.iload_n 2, 1) := by decide +kernel
theorem dX1_closeLine_49 : decode cX1_closeLine 49 = .ok (.iaload, 1) := by decide +kernel
theorem dX1_closeLine_50 : decode cX1_closeLine 50 = .ok (.invokestatic 46, 3) := by decide +kernel
theorem dX1_closeLine_53 : decode cX1_closeLine 53 = .ok (.istore 4, 2) := by decide +kernel
theorem dX1_closeLine_55 : decode cX1_closeLine 55 = .ok (.aload_n 0, 1) := by decide +kernel
theorem dX1_closeLine_56 : decode cX1_closeLine 56 = .ok (.iload_n 3, 1) := by decide +kernel
theorem dX1_closeLine_57 : decode cX1_closeLine 57 = .ok (.iload 4, 2) := by decide +kernel
theorem dX1_closeLine_59 : decode cX1_closeLine 59 = .ok (.iconst 1, 1) := by decide +kernel
theorem dX1_closeLine_60 : decode cX1_closeLine 60 = .ok (.isub, 1) := by decide +kernel
theorem dX1_closeLine_61 : decode cX1_closeLine 61 = .ok (.invokevirtual 60, 3) := by decide +kernel
theorem dX1_closeLine_64 : decode cX1_closeLine 64 = .ok (.aload_n 0, 1) := by decide +kernel
theorem dX1_closeLine_65 : decode cX1_closeLine 65 = .ok (.iload_n 3, 1) := by decide +kernel
theorem dX1_closeLine_66 : decode cX1_closeLine 66 = .ok (.iconst 1, 1) := by decide +kernel
theorem dX1_closeLine_67 : decode cX1_closeLine 67 = .ok (.isub, 1) := by decide +kernel
theorem dX1_closeLine_68 : decode cX1_closeLine 68 = .ok (.iload 4, 2) := by decide +kernel
theorem dX1_closeLine_70 : decode cX1_closeLine 70 = .ok (.invokevirtual 60, 3) := by decide +kernel
theorem dX1_closeLine_73 : decode cX1_closeLine 73 = .ok (.aload_n 0, 1) := by decide +kernel
theorem dX1_closeLine_74 : decode cX1_closeLine 74 = .ok (.iload_n 3, 1) := by decide +kernel
theorem dX1_closeLine_75 : decode cX1_closeLine 75 = .ok (.iconst 1, 1) := by decide +kernel
theorem dX1_closeLine_76 : decode cX1_closeLine 76 = .ok (.iadd, 1) := by decide +kernel
theorem dX1_closeLine_77 : decode cX1_closeLine 77 = .ok (.iload 4, 2) := by decide +kernel
theorem dX1_closeLine_79 : decode cX1_closeLine 79 = .ok (.invokevirtual 60, 3) := by decide +kernel
theorem dX1_closeLine_82 : decode cX1_closeLine 82 = .ok (.aload_n 0, 1) := by decide +kernel
theorem dX1_closeLine_83 : decode cX1_closeLine 83 = .ok (.iload_n 3, 1) := by decide +kernel
theorem dX1_closeLine_84 : decode cX1_closeLine 84 = .ok (.iload 4, 2) := by decide +kernel
theorem dX1_closeLine_86 : decode cX1_closeLine 86 = .ok (.iconst 1, 1) := by decide +kernel
theorem dX1_closeLine_87 : decode cX1_closeLine 87 = .ok (.iadd, 1) := by decide +kernel
theorem dX1_closeLine_88 : decode cX1_closeLine 88 = .ok (.invokevirtual 60, 3) := by decide +kernel
theorem dX1_closeLine_91 : decode cX1_closeLine 91 = .ok (.iinc 2 1, 3) := by decide +kernel
theorem dX1_closeLine_94 : decode cX1_closeLine 94 = .ok (.goto (-75), 3) := by decide +kernel
theorem dX1_closeLine_97 : decode cX1_closeLine 97 = .ok (.return_, 1) := by decide +kernel
set_option maxRecDepth 20000 in
theorem ggX1_reach_X8_isPlace : GoodIn wsX1_reach wsX8_isPlace := goodIn_r _ [6] (by decide +kernel) (by decide +kernel)
set_option maxRecDepth 20000 in
theorem gX1_reach_X8_isPlace_n64 : GoodIn wsX1_reach (wsX8_isPlace) := ggX1_reach_X8_isPlace
set_option maxRecDepth 20000 in
theorem ggX1_reach_X8_placeOf : GoodIn wsX1_reach wsX8_placeOf := goodIn_r _ [8] (by decide +kernel) (by decide +kernel)
set_option maxRecDepth 20000 in
theorem gX1_reach_X8_placeOf_n68 : GoodIn wsX1_reach (wsX8_placeOf) := ggX1_reach_X8_placeOf
theorem dX1_reach_0 : decode cX1_reach 0 = .ok (.iload_n 1, 1) := by decide +kernel
theorem dX1_reach_1 : decode cX1_reach 1 = .ok (.iload_n 2, 1) := by decide +kernel
theorem dX1_reach_2 : decode cX1_reach 2 = .ok (.invokestatic 64, 3) := by decide +kernel
theorem dX1_reach_5 : decode cX1_reach 5 = .ok (.ifCond .eq 61, 3) := by decide +kernel
theorem dX1_reach_8 : decode cX1_reach 8 = .ok (.aload_n 0, 1) := by decide +kernel
theorem dX1_reach_9 : decode cX1_reach 9 = .ok (.getfield 9, 3) := by decide +kernel
theorem dX1_reach_12 : decode cX1_reach 12 = .ok (.iload_n 1, 1) := by decide +kernel
theorem dX1_reach_13 : decode cX1_reach 13 = .ok (.iload_n 2, 1) := by decide +kernel
theorem dX1_reach_14 : decode cX1_reach 14 = .ok (.invokestatic 68, 3) := by decide +kernel
theorem dX1_reach_17 : decode cX1_reach 17 = .ok (.baload, 1) := by decide +kernel
theorem dX1_reach_18 : decode cX1_reach 18 = .ok (.ifCond .eq 48, 3) := by decide +kernel
theorem dX1_reach_21 : decode cX1_reach 21 = .ok (.aload_n 0, 1) := by decide +kernel
theorem dX1_reach_22 : decode cX1_reach 22 = .ok (.getfield 19, 3) := by decide +kernel
theorem dX1_reach_25 : decode cX1_reach 25 = .ok (.sipush 144, 3) := by decide +kernel
theorem dX1_reach_28 : decode cX1_reach 28 = .ok (.if_icmp .ge 38, 3) := by decide +kernel
theorem dX1_reach_31 : decode cX1_reach 31 = .ok (.aload_n 0, 1) := by decide +kernel
theorem dX1_reach_32 : decode cX1_reach 32 = .ok (.getfield 9, 3) := by decide +kernel
theorem dX1_reach_35 : decode cX1_reach 35 = .ok (.iload_n 1, 1) := by decide +kernel
theorem dX1_reach_36 : decode cX1_reach 36 = .ok (.iload_n 2, 1) := by decide +kernel
theorem dX1_reach_37 : decode cX1_reach 37 = .ok (.invokestatic 68, 3) := by decide +kernel
theorem dX1_reach_40 : decode cX1_reach 40 = .ok (.iconst 0, 1) := by decide +kernel
theorem dX1_reach_41 : decode cX1_reach 41 = .ok (.bastore, 1) := by decide +kernel
theorem dX1_reach_42 : decode cX1_reach 42 = .ok (.aload_n 0, 1) := by decide +kernel
theorem dX1_reach_43 : decode cX1_reach 43 = .ok (.getfield 15, 3) := by decide +kernel
theorem dX1_reach_46 : decode cX1_reach 46 = .ok (.aload_n 0, 1) := by decide +kernel
theorem dX1_reach_47 : decode cX1_reach 47 = .ok (.getfield 19, 3) := by decide +kernel
theorem dX1_reach_50 : decode cX1_reach 50 = .ok (.iload_n 1, 1) := by decide +kernel
theorem dX1_reach_51 : decode cX1_reach 51 = .ok (.iload_n 2, 1) := by decide +kernel
theorem dX1_reach_52 : decode cX1_reach 52 = .ok (.invokestatic 68, 3) := by decide +kernel
theorem dX1_reach_55 : decode cX1_reach 55 = .ok (.iastore, 1) := by decide +kernel
theorem dX1_reach_56 : decode cX1_reach 56 = .ok (.aload_n 0, 1) := by decide +kernel
theorem dX1_reach_57 : decode cX1_reach 57 = .ok (.dup, 1) := by decide +kernel
theorem dX1_reach_58 : decode cX1_reach 58 = .ok (.getfield 19, 3) := by decide +kernel
theorem dX1_reach_61 : decode cX1_reach 61 = .ok (.iconst 1, 1) := by decide +kernel
theorem dX1_reach_62 : decode cX1_reach 62 = .ok (.iadd, 1) := by decide +kernel
theorem dX1_reach_63 : decode cX1_reach 63 = .ok (.putfield 19, 3) := by decide +kernel
theorem dX1_reach_66 : decode cX1_reach 66 = .ok (.return_, 1) := by decide +kernel
set_option maxRecDepth 20000 in
theorem ggX2_init_X5_init : GoodIn wsX2_init wsX5_init := goodIn_r _ [12, 13, 2, 3, 14, 15, 16, 17, 18, 19, 20, 21, 22, 23, 24, 25, 26, 27, 28, 29, 30, 31, 32, 33, 34, 35, 36, 37, 38, 39, 40, 41, 42, 43, 44, 45, 46, 47, 48, 49, 9, 50, 54, 55, 56, 57, 58, 59, 60, 61, 62, 63, 64, 65, 66, 67, 68, 69, 70] (by decide +kernel) (by decide +kernel)
set_option maxRecDepth 20000 in
theorem gX2_init_X5_init : GoodIn wsX2_init (wsX5_init) := ggX2_init_X5_init
theorem dX2_init_0 : decode cX2_init 0 = .ok (.aload_n 0, 1) := by decide +kernel
theorem dX2_init_1 : decode cX2_init 1 = .ok (.invokespecial 3, 3) := by decide +kernel
theorem dX2_init_4 : decode cX2_init 4 = .ok (.aload_n 0, 1) := by decide +kernel
theorem dX2_init_5 : decode cX2_init 5 = .ok (.iconst 4, 1) := by decide +kernel
theorem dX2_init_6 : decode cX2_init 6 = .ok (.anewarray 9, 3) := by decide +kernel
theorem dX2_init_9 : decode cX2_init 9 = .ok (.putfield 11, 3) := by decide +kernel
theorem dX2_init_12 : decode cX2_init 12 = .ok (.aload_n 0, 1) := by decide +kernel
theorem dX2_init_13 : decode cX2_init 13 = .ok (.iconst 0, 1) := by decide +kernel
theorem dX2_init_14 : decode cX2_init 14 = .ok (.putfield 17, 3) := by decide +kernel
theorem dX2_init_17 : decode cX2_init 17 = .ok (.aload_n 0, 1) := by decide +kernel
theorem dX2_init_18 : decode cX2_init 18 = .ok (.iconst 0, 1) := by decide +kernel
theorem dX2_init_19 : decode cX2_init 19 = .ok (.putfield 21, 3) := by decide +kernel
theorem dX2_init_22 : decode cX2_init 22 = .ok (.iconst 0, 1) := by decide +kernel
theorem dX2_init_23 : decode cX2_init 23 = .ok (.istore_n 1, 1) := by decide +kernel
theorem dX2_init_24 : decode cX2_init 24 = .ok (.iload_n 1, 1) := by decide +kernel
theorem dX2_init_25 : decode cX2_init 25 = .ok (.iconst 4, 1) := by decide +kernel
theorem dX2_init_26 : decode cX2_init 26 = .ok (.if_icmp .ge 22, 3) := by decide +kernel
theorem dX2_init_29 : decode cX2_init 29 = .ok (.aload_n 0, 1) := by decide +kernel
theorem dX2_init_30 : decode cX2_init 30 = .ok (.getfield 11, 3) := by decide +kernel
theorem dX2_init_33 : decode cX2_init 33 = .ok (.iload_n 1, 1) := by decide +kernel
theorem dX2_init_34 : decode cX2_init 34 = .ok (.new 9, 3) := by decide +kernel
theorem dX2_init_37 : decode cX2_init 37 = .ok (.dup, 1) := by decide +kernel
theorem dX2_init_38 : decode cX2_init 38 = .ok (.invokespecial 24, 3) := by decide +kernel
theorem dX2_init_41 : decode cX2_init 41 = .ok (.aastore, 1) := by decide +kernel
theorem dX2_init_42 : decode cX2_init 42 = .ok (.iinc 1 1, 3) := by decide +kernel
theorem dX2_init_45 : decode cX2_init 45 = .ok (.goto (-21), 3) := by decide +kernel
theorem dX2_init_48 : decode cX2_init 48 = .ok (.return_, 1) := by decide +kernel
set_option maxRecDepth 20000 in
theorem ggX2_record_X5_copyFrom : GoodIn wsX2_record wsX5_copyFrom := goodIn_r _ [8, 9, 10, 11, 12, 13, 14, 15, 16, 17, 18, 19, 20, 21, 22, 23, 24, 25, 26, 27, 28, 29, 30, 31, 32, 33, 34, 35, 36, 37, 38, 39, 40, 41, 42, 46, 47, 48, 49, 50, 51, 52, 53, 54, 55, 56, 57, 58, 59, 60, 61, 62] (by decide +kernel) (by decide +kernel)
set_option maxRecDepth 20000 in
theorem gX2_record_X5_copyFrom : GoodIn wsX2_record (wsV RX2 25 RX5 yX5_copyFrom wsX5_copyFrom) := goodIn_app (goodIn_of _ (by decide +kernel)) ggX2_record_X5_copyFrom
theorem dX2_record_0 : decode cX2_record 0 = .ok (.aload_n 0, 1) := by decide +kernel
theorem dX2_record_1 : decode cX2_record 1 = .ok (.getfield 21, 3) := by decide +kernel
theorem dX2_record_4 : decode cX2_record 4 = .ok (.iconst 4, 1) := by decide +kernel
theorem dX2_record_5 : decode cX2_record 5 = .ok (.if_icmp .ne 25, 3) := by decide +kernel
theorem dX2_record_8 : decode cX2_record 8 = .ok (.aload_n 0, 1) := by decide +kernel
theorem dX2_record_9 : decode cX2_record 9 = .ok (.aload_n 0, 1) := by decide +kernel
theorem dX2_record_10 : decode cX2_record 10 = .ok (.getfield 17, 3) := by decide +kernel
theorem dX2_record_13 : decode cX2_record 13 = .ok (.iconst 1, 1) := by decide +kernel
theorem dX2_record_14 : decode cX2_record 14 = .ok (.iadd, 1) := by decide +kernel
theorem dX2_record_15 : decode cX2_record 15 = .ok (.iconst 4, 1) := by decide +kernel
theorem dX2_record_16 : decode cX2_record 16 = .ok (.irem, 1) := by decide +kernel
theorem dX2_record_17 : decode cX2_record 17 = .ok (.putfield 17, 3) := by decide +kernel
theorem dX2_record_20 : decode cX2_record 20 = .ok (.aload_n 0, 1) := by decide +kernel
theorem dX2_record_21 : decode cX2_record 21 = .ok (.dup, 1) := by decide +kernel
theorem dX2_record_22 : decode cX2_record 22 = .ok (.getfield 21, 3) := by decide +kernel
theorem dX2_record_25 : decode cX2_record 25 = .ok (.iconst 1, 1) := by decide +kernel
theorem dX2_record_26 : decode cX2_record 26 = .ok (.isub, 1) := by decide +kernel
theorem dX2_record_27 : decode cX2_record 27 = .ok (.putfield 21, 3) := by decide +kernel
theorem dX2_record_30 : decode cX2_record 30 = .ok (.aload_n 0, 1) := by decide +kernel
theorem dX2_record_31 : decode cX2_record 31 = .ok (.getfield 11, 3) := by decide +kernel
theorem dX2_record_34 : decode cX2_record 34 = .ok (.aload_n 0, 1) := by decide +kernel
theorem dX2_record_35 : decode cX2_record 35 = .ok (.getfield 17, 3) := by decide +kernel
theorem dX2_record_38 : decode cX2_record 38 = .ok (.aload_n 0, 1) := by decide +kernel
theorem dX2_record_39 : decode cX2_record 39 = .ok (.getfield 21, 3) := by decide +kernel
theorem dX2_record_42 : decode cX2_record 42 = .ok (.iadd, 1) := by decide +kernel
theorem dX2_record_43 : decode cX2_record 43 = .ok (.iconst 4, 1) := by decide +kernel
theorem dX2_record_44 : decode cX2_record 44 = .ok (.irem, 1) := by decide +kernel
theorem dX2_record_45 : decode cX2_record 45 = .ok (.aaload, 1) := by decide +kernel
theorem dX2_record_46 : decode cX2_record 46 = .ok (.astore_n 2, 1) := by decide +kernel
theorem dX2_record_47 : decode cX2_record 47 = .ok (.aload_n 2, 1) := by decide +kernel
theorem dX2_record_48 : decode cX2_record 48 = .ok (.ifnull 18, 3) := by decide +kernel
theorem dX2_record_51 : decode cX2_record 51 = .ok (.aload_n 2, 1) := by decide +kernel
theorem dX2_record_52 : decode cX2_record 52 = .ok (.aload_n 1, 1) := by decide +kernel
theorem dX2_record_53 : decode cX2_record 53 = .ok (.invokevirtual 25, 3) := by decide +kernel
theorem dX2_record_56 : decode cX2_record 56 = .ok (.aload_n 0, 1) := by decide +kernel
theorem dX2_record_57 : decode cX2_record 57 = .ok (.dup, 1) := by decide +kernel
theorem dX2_record_58 : decode cX2_record 58 = .ok (.getfield 21, 3) := by decide +kernel
theorem dX2_record_61 : decode cX2_record 61 = .ok (.iconst 1, 1) := by decide +kernel
theorem dX2_record_62 : decode cX2_record 62 = .ok (.iadd, 1) := by decide +kernel
theorem dX2_record_63 : decode cX2_record 63 = .ok (.putfield 21, 3) := by decide +kernel
theorem dX2_record_66 : decode cX2_record 66 = .ok (.return_, 1) := by decide +kernel
set_option maxRecDepth 20000 in
theorem ggX2_takeLatest_X5_copyFrom : GoodIn wsX2_takeLatest wsX5_copyFrom := goodIn_r _ [8, 9, 10, 11, 12, 13, 14, 15, 16, 17, 18, 19, 20, 21, 22, 23, 24, 25, 26, 27, 28, 29, 30, 31, 32, 33, 34, 35, 36, 37, 38, 39, 40, 41, 42, 46, 47, 48, 49, 50, 51, 52, 53, 54, 55, 56, 57, 58, 59, 60, 61, 62] (by decide +kernel) (by decide +kernel)
set_option maxRecDepth 20000 in
theorem gX2_takeLatest_X5_copyFrom : GoodIn wsX2_takeLatest (wsV RX2 25 RX5 yX5_copyFrom wsX5_copyFrom) := goodIn_app (goodIn_of _ (by decide +kernel)) ggX2_takeLatest_X5_copyFrom
theorem dX2_takeLatest_0 : decode cX2_takeLatest 0 = .ok (.aload_n 0, 1) := by decide +kernel
theorem dX2_takeLatest_1 : decode cX2_takeLatest 1 = .ok (.getfield 21, 3) := by decide +kernel
theorem dX2_takeLatest_4 : decode cX2_takeLatest 4 = .ok (.ifCond .ne 4, 3) := by decide +kernel
theorem dX2_takeLatest_7 : decode cX2_takeLatest 7 = .ok (.return_, 1) := by decide +kernel
theorem dX2_takeLatest_8 : decode cX2_takeLatest 8 = .ok (.aload_n 0, 1) := by decide +kernel
theorem dX2_takeLatest_9 : decode cX2_takeLatest 9 = .ok (.dup, 1) := by decide +kernel
theorem dX2_takeLatest_10 : decode cX2_takeLatest 10 = .ok (.getfield 21, 3) := by decide +kernel
theorem dX2_takeLatest_13 : decode cX2_takeLatest 13 = .ok (.iconst 1, 1) := by decide +kernel
theorem dX2_takeLatest_14 : decode cX2_takeLatest 14 = .ok (.isub, 1) := by decide +kernel
theorem dX2_takeLatest_15 : decode cX2_takeLatest 15 = .ok (.putfield 21, 3) := by decide +kernel
theorem dX2_takeLatest_18 : decode cX2_takeLatest 18 = .ok (.aload_n 0, 1) := by decide +kernel
theorem dX2_takeLatest_19 : decode cX2_takeLatest 19 = .ok (.getfield 11, 3) := by decide +kernel
theorem dX2_takeLatest_22 : decode cX2_takeLatest 22 = .ok (.aload_n 0, 1) := by decide +kernel
theorem dX2_takeLatest_23 : decode cX2_takeLatest 23 = .ok (.getfield 17, 3) := by decide +kernel
theorem dX2_takeLatest_26 : decode cX2_takeLatest 26 = .ok (.aload_n 0, 1) := by decide +kernel
theorem dX2_takeLatest_27 : decode cX2_takeLatest 27 = .ok (.getfield 21, 3) := by decide +kernel
theorem dX2_takeLatest_30 : decode cX2_takeLatest 30 = .ok (.iadd, 1) := by decide +kernel
theorem dX2_takeLatest_31 : decode cX2_takeLatest 31 = .ok (.iconst 4, 1) := by decide +kernel
theorem dX2_takeLatest_32 : decode cX2_takeLatest 32 = .ok (.irem, 1) := by decide +kernel
theorem dX2_takeLatest_33 : decode cX2_takeLatest 33 = .ok (.aaload, 1) := by decide +kernel
theorem dX2_takeLatest_34 : decode cX2_takeLatest 34 = .ok (.astore_n 2, 1) := by decide +kernel
theorem dX2_takeLatest_35 : decode cX2_takeLatest 35 = .ok (.aload_n 2, 1) := by decide +kernel
theorem dX2_takeLatest_36 : decode cX2_takeLatest 36 = .ok (.ifnull 8, 3) := by decide +kernel
theorem dX2_takeLatest_39 : decode cX2_takeLatest 39 = .ok (.aload_n 1, 1) := by decide +kernel
theorem dX2_takeLatest_40 : decode cX2_takeLatest 40 = .ok (.aload_n 2, 1) := by decide +kernel
theorem dX2_takeLatest_41 : decode cX2_takeLatest 41 = .ok (.invokevirtual 25, 3) := by decide +kernel
theorem dX2_takeLatest_44 : decode cX2_takeLatest 44 = .ok (.return_, 1) := by decide +kernel
theorem dX3_init_0 : decode cX3_init 0 = .ok (.aload_n 0, 1) := by decide +kernel
theorem dX3_init_1 : decode cX3_init 1 = .ok (.invokespecial 3, 3) := by decide +kernel
theorem dX3_init_4 : decode cX3_init 4 = .ok (.aload_n 0, 1) := by decide +kernel
theorem dX3_init_5 : decode cX3_init 5 = .ok (.sipush 144, 3) := by decide +kernel
theorem dX3_init_8 : decode cX3_init 8 = .ok (.newarray .int, 2) := by decide +kernel
theorem dX3_init_10 : decode cX3_init 10 = .ok (.putfield 9, 3) := by decide +kernel
theorem dX3_init_13 : decode cX3_init 13 = .ok (.aload_n 0, 1) := by decide +kernel
theorem dX3_init_14 : decode cX3_init 14 = .ok (.sipush 144, 3) := by decide +kernel
theorem dX3_init_17 : decode cX3_init 17 = .ok (.newarray .int, 2) := by decide +kernel
theorem dX3_init_19 : decode cX3_init 19 = .ok (.putfield 15, 3) := by decide +kernel
theorem dX3_init_22 : decode cX3_init 22 = .ok (.aload_n 0, 1) := by decide +kernel
theorem dX3_init_23 : decode cX3_init 23 = .ok (.sipush 144, 3) := by decide +kernel
theorem dX3_init_26 : decode cX3_init 26 = .ok (.newarray .int, 2) := by decide +kernel
theorem dX3_init_28 : decode cX3_init 28 = .ok (.putfield 18, 3) := by decide +kernel
theorem dX3_init_31 : decode cX3_init 31 = .ok (.aload_n 0, 1) := by decide +kernel
theorem dX3_init_32 : decode cX3_init 32 = .ok (.aload_n 1, 1) := by decide +kernel
theorem dX3_init_33 : decode cX3_init 33 = .ok (.putfield 21, 3) := by decide +kernel
theorem dX3_init_36 : decode cX3_init 36 = .ok (.aload_n 0, 1) := by decide +kernel
theorem dX3_init_37 : decode cX3_init 37 = .ok (.aload_n 2, 1) := by decide +kernel
theorem dX3_init_38 : decode cX3_init 38 = .ok (.putfield 25, 3) := by decide +kernel
theorem dX3_init_41 : decode cX3_init 41 = .ok (.return_, 1) := by decide +kernel
set_option maxRecDepth 20000 in
theorem ggX3_stroke_X8_columnOf : GoodIn wsX3_stroke wsX8_columnOf := goodIn_r _ [6] (by decide +kernel) (by decide +kernel)
set_option maxRecDepth 20000 in
theorem gX3_stroke_X8_columnOf_n29 : GoodIn wsX3_stroke (wsX8_columnOf) := ggX3_stroke_X8_columnOf
set_option maxRecDepth 20000 in
theorem ggX3_stroke_X8_rowOf : GoodIn wsX3_stroke wsX8_rowOf := goodIn_r _ [8] (by decide +kernel) (by decide +kernel)
set_option maxRecDepth 20000 in
theorem gX3_stroke_X8_rowOf_n33 : GoodIn wsX3_stroke (wsX8_rowOf) := ggX3_stroke_X8_rowOf
set_option maxRecDepth 20000 in
theorem ggX3_stroke_X7_swingAt : GoodIn wsX3_stroke wsX7_swingAt := goodIn_r _ [13, 14, 15, 16, 17, 18, 19, 20, 21, 22, 5, 23, 24, 25, 55, 56, 57, 58, 59] (by decide +kernel) (by decide +kernel)
set_option maxRecDepth 20000 in
theorem gX3_stroke_X7_swingAt : GoodIn wsX3_stroke (wsV RX3 36 RX7 yX7_swingAt wsX7_swingAt) := goodIn_app (goodIn_of _ (by decide +kernel)) ggX3_stroke_X7_swingAt
set_option maxRecDepth 20000 in
theorem ggX3_stroke_X3_targetOf : GoodIn wsX3_stroke wsX3_targetOf := goodIn_r _ [30, 31, 5, 32, 33, 34, 35, 29, 36, 1, 24, 25, 50, 51, 52, 53, 54] (by decide +kernel) (by decide +kernel)
set_option maxRecDepth 20000 in
theorem gX3_stroke_X3_targetOf : GoodIn wsX3_stroke (wsV RX3 42 RX3 yX3_targetOf wsX3_targetOf) := goodIn_app (goodIn_of _ (by decide +kernel)) ggX3_stroke_X3_targetOf
set_option maxRecDepth 20000 in
theorem ggX3_stroke_X3_strokeOnce : GoodIn wsX3_stroke wsX3_strokeOnce := goodIn_r _ [40, 41, 1, 42, 43, 44, 45, 29, 46, 3, 47, 48, 49, 4, 5, 6, 7, 8, 50, 51, 52, 53, 54, 60, 61, 62, 63, 64, 65, 66, 67, 68, 69, 70, 71] (by decide +kernel) (by decide +kernel)
set_option maxRecDepth 20000 in
theorem gX3_stroke_X3_strokeOnce : GoodIn wsX3_stroke (wsV RX3 46 RX3 yX3_strokeOnce wsX3_strokeOnce) := goodIn_app (goodIn_of _ (by decide +kernel)) ggX3_stroke_X3_strokeOnce
theorem dX3_stroke_0 : decode cX3_stroke 0 = .ok (.iconst 0, 1) := by decide +kernel
theorem dX3_stroke_1 : decode cX3_stroke 1 = .ok (.istore_n 3, 1) := by decide +kernel
theorem dX3_stroke_2 : decode cX3_stroke 2 = .ok (.iload_n 3, 1) := by decide +kernel
theorem dX3_stroke_3 : decode cX3_stroke 3 = .ok (.sipush 144, 3) := by decide +kernel
theorem dX3_stroke_6 : decode cX3_stroke 6 = .ok (.if_icmp .ge 31, 3) := by decide +kernel
theorem dX3_stroke_9 : decode cX3_stroke 9 = .ok (.aload_n 0, 1) := by decide +kernel
theorem dX3_stroke_10 : decode cX3_stroke 10 = .ok (.getfield 9, 3) := by decide +kernel
theorem dX3_stroke_13 : decode cX3_stroke 13 = .ok (.iload_n 3, 1) := by decide +kernel
theorem dX3_stroke_14 : decode cX3_stroke 14 = .ok (.aload_n 0, 1) := by decide +kernel
theorem dX3_stroke_15 : decode cX3_stroke 15 = .ok (.getfield 21, 3) := by decide +kernel
theorem dX3_stroke_18 : decode cX3_stroke 18 = .ok (.iload_n 1, 1) := by decide +kernel
theorem dX3_stroke_19 : decode cX3_stroke 19 = .ok (.iload_n 3, 1) := by decide +kernel
theorem dX3_stroke_20 : decode cX3_stroke 20 = .ok (.invokestatic 29, 3) := by decide +kernel
theorem dX3_stroke_23 : decode cX3_stroke 23 = .ok (.iload_n 3, 1) := by decide +kernel
theorem dX3_stroke_24 : decode cX3_stroke 24 = .ok (.invokestatic 33, 3) := by decide +kernel
theorem dX3_stroke_27 : decode cX3_stroke 27 = .ok (.invokevirtual 36, 3) := by decide +kernel
theorem dX3_stroke_30 : decode cX3_stroke 30 = .ok (.iastore, 1) := by decide +kernel
theorem dX3_stroke_31 : decode cX3_stroke 31 = .ok (.iinc 3 1, 3) := by decide +kernel
theorem dX3_stroke_34 : decode cX3_stroke 34 = .ok (.goto (-32), 3) := by decide +kernel
theorem dX3_stroke_37 : decode cX3_stroke 37 = .ok (.iconst 0, 1) := by decide +kernel
theorem dX3_stroke_38 : decode cX3_stroke 38 = .ok (.istore_n 3, 1) := by decide +kernel
theorem dX3_stroke_39 : decode cX3_stroke 39 = .ok (.iload_n 3, 1) := by decide +kernel
theorem dX3_stroke_40 : decode cX3_stroke 40 = .ok (.sipush 144, 3) := by decide +kernel
theorem dX3_stroke_43 : decode cX3_stroke 43 = .ok (.if_icmp .ge 27, 3) := by decide +kernel
theorem dX3_stroke_46 : decode cX3_stroke 46 = .ok (.aload_n 0, 1) := by decide +kernel
theorem dX3_stroke_47 : decode cX3_stroke 47 = .ok (.getfield 15, 3) := by decide +kernel
theorem dX3_stroke_50 : decode cX3_stroke 50 = .ok (.iload_n 3, 1) := by decide +kernel
theorem dX3_stroke_51 : decode cX3_stroke 51 = .ok (.aload_n 0, 1) := by decide +kernel
theorem dX3_stroke_52 : decode cX3_stroke 52 = .ok (.iload_n 3, 1) := by decide +kernel
theorem dX3_stroke_53 : decode cX3_stroke 53 = .ok (.invokestatic 29, 3) := by decide +kernel
theorem dX3_stroke_56 : decode cX3_stroke 56 = .ok (.iload_n 3, 1) := by decide +kernel
theorem dX3_stroke_57 : decode cX3_stroke 57 = .ok (.invokestatic 33, 3) := by decide +kernel
theorem dX3_stroke_60 : decode cX3_stroke 60 = .ok (.invokevirtual 42, 3) := by decide +kernel
theorem dX3_stroke_63 : decode cX3_stroke 63 = .ok (.iastore, 1) := by decide +kernel
theorem dX3_stroke_64 : decode cX3_stroke 64 = .ok (.iinc 3 1, 3) := by decide +kernel
theorem dX3_stroke_67 : decode cX3_stroke 67 = .ok (.goto (-28), 3) := by decide +kernel
theorem dX3_stroke_70 : decode cX3_stroke 70 = .ok (.iconst 0, 1) := by decide +kernel
theorem dX3_stroke_71 : decode cX3_stroke 71 = .ok (.istore_n 3, 1) := by decide +kernel
theorem dX3_stroke_72 : decode cX3_stroke 72 = .ok (.iload_n 3, 1) := by decide +kernel
theorem dX3_stroke_73 : decode cX3_stroke 73 = .ok (.iload_n 2, 1) := by decide +kernel
theorem dX3_stroke_74 : decode cX3_stroke 74 = .ok (.if_icmp .ge 19, 3) := by decide +kernel
theorem dX3_stroke_77 : decode cX3_stroke 77 = .ok (.iload_n 3, 1) := by decide +kernel
theorem dX3_stroke_78 : decode cX3_stroke 78 = .ok (.bipush 20, 2) := by decide +kernel
theorem dX3_stroke_80 : decode cX3_stroke 80 = .ok (.if_icmp .ge 13, 3) := by decide +kernel
theorem dX3_stroke_83 : decode cX3_stroke 83 = .ok (.aload_n 0, 1) := by decide +kernel
theorem dX3_stroke_84 : decode cX3_stroke 84 = .ok (.invokevirtual 46, 3) := by decide +kernel
theorem dX3_stroke_87 : decode cX3_stroke 87 = .ok (.iinc 3 1, 3) := by decide +kernel
theorem dX3_stroke_90 : decode cX3_stroke 90 = .ok (.goto (-18), 3) := by decide +kernel
theorem dX3_stroke_93 : decode cX3_stroke 93 = .ok (.return_, 1) := by decide +kernel
set_option maxRecDepth 20000 in
theorem ggX3_targetOf_X8_placeOf : GoodIn wsX3_targetOf wsX8_placeOf := goodIn_r _ [3] (by decide +kernel) (by decide +kernel)
set_option maxRecDepth 20000 in
theorem gX3_targetOf_X8_placeOf_n49 : GoodIn wsX3_targetOf (wsX8_placeOf) := ggX3_targetOf_X8_placeOf
set_option maxRecDepth 20000 in
theorem ggX3_targetOf_X3_calmerOf : GoodIn wsX3_targetOf wsX3_calmerOf := goodIn_r _ [8, 9, 10, 2, 11, 1, 3, 12, 13, 14, 15, 16] (by decide +kernel) (by decide +kernel)
set_option maxRecDepth 20000 in
theorem gX3_targetOf_X3_calmerOf : GoodIn wsX3_targetOf (wsV RX3 52 RX3 yX3_calmerOf wsX3_calmerOf) := goodIn_app (goodIn_of _ (by decide +kernel)) ggX3_targetOf_X3_calmerOf
theorem dX3_targetOf_0 : decode cX3_targetOf 0 = .ok (.iload_n 1, 1) := by decide +kernel
theorem dX3_targetOf_1 : decode cX3_targetOf 1 = .ok (.iload_n 2, 1) := by decide +kernel
theorem dX3_targetOf_2 : decode cX3_targetOf 2 = .ok (.invokestatic 49, 3) := by decide +kernel
theorem dX3_targetOf_5 : decode cX3_targetOf 5 = .ok (.istore_n 3, 1) := by decide +kernel
theorem dX3_targetOf_6 : decode cX3_targetOf 6 = .ok (.aload_n 0, 1) := by decide +kernel
theorem dX3_targetOf_7 : decode cX3_targetOf 7 = .ok (.iload_n 3, 1) := by decide +kernel
theorem dX3_targetOf_8 : decode cX3_targetOf 8 = .ok (.iload_n 1, 1) := by decide +kernel
theorem dX3_targetOf_9 : decode cX3_targetOf 9 = .ok (.iload_n 2, 1) := by decide +kernel
theorem dX3_targetOf_10 : decode cX3_targetOf 10 = .ok (.iconst 1, 1) := by decide +kernel
theorem dX3_targetOf_11 : decode cX3_targetOf 11 = .ok (.isub, 1) := by decide +kernel
theorem dX3_targetOf_12 : decode cX3_targetOf 12 = .ok (.invokevirtual 52, 3) := by decide +kernel
theorem dX3_targetOf_15 : decode cX3_targetOf 15 = .ok (.istore_n 3, 1) := by decide +kernel
theorem dX3_targetOf_16 : decode cX3_targetOf 16 = .ok (.aload_n 0, 1) := by decide +kernel
theorem dX3_targetOf_17 : decode cX3_targetOf 17 = .ok (.iload_n 3, 1) := by decide +kernel
theorem dX3_targetOf_18 : decode cX3_targetOf 18 = .ok (.iload_n 1, 1) := by decide +kernel
theorem dX3_targetOf_19 : decode cX3_targetOf 19 = .ok (.iconst 1, 1) := by decide +kernel
theorem dX3_targetOf_20 : decode cX3_targetOf 20 = .ok (.isub, 1) := by decide +kernel
theorem dX3_targetOf_21 : decode cX3_targetOf 21 = .ok (.iload_n 2, 1) := by decide +kernel
theorem dX3_targetOf_22 : decode cX3_targetOf 22 = .ok (.invokevirtual 52, 3) := by decide +kernel
theorem dX3_targetOf_25 : decode cX3_targetOf 25 = .ok (.istore_n 3, 1) := by decide +kernel
theorem dX3_targetOf_26 : decode cX3_targetOf 26 = .ok (.aload_n 0, 1) := by decide +kernel
theorem dX3_targetOf_27 : decode cX3_targetOf 27 = .ok (.iload_n 3, 1) := by decide +kernel
theorem dX3_targetOf_28 : decode cX3_targetOf 28 = .ok (.iload_n 1, 1) := by decide +kernel
theorem dX3_targetOf_29 : decode cX3_targetOf 29 = .ok (.iconst 1, 1) := by decide +kernel
theorem dX3_targetOf_30 : decode cX3_targetOf 30 = .ok (.iadd, 1) := by decide +kernel
theorem dX3_targetOf_31 : decode cX3_targetOf 31 = .ok (.iload_n 2, 1) := by decide +kernel
theorem dX3_targetOf_32 : decode cX3_targetOf 32 = .ok (.invokevirtual 52, 3) := by decide +kernel
theorem dX3_targetOf_35 : decode cX3_targetOf 35 = .ok (.istore_n 3, 1) := by decide +kernel
theorem dX3_targetOf_36 : decode cX3_targetOf 36 = .ok (.aload_n 0, 1) := by decide +kernel
theorem dX3_targetOf_37 : decode cX3_targetOf 37 = .ok (.iload_n 3, 1) := by decide +kernel
theorem dX3_targetOf_38 : decode cX3_targetOf 38 = .ok (.iload_n 1, 1) := by decide +kernel
theorem dX3_targetOf_39 : decode cX3_targetOf 39 = .ok (.iload_n 2, 1) := by decide +kernel
theorem dX3_targetOf_40 : decode cX3_targetOf 40 = .ok (.iconst 1, 1) := by decide +kernel
theorem dX3_targetOf_41 : decode cX3_targetOf 41 = .ok (.iadd, 1) := by decide +kernel
theorem dX3_targetOf_42 : decode cX3_targetOf 42 = .ok (.invokevirtual 52, 3) := by decide +kernel
theorem dX3_targetOf_45 : decode cX3_targetOf 45 = .ok (.ireturn, 1) := by decide +kernel
set_option maxRecDepth 20000 in
theorem ggX3_calmerOf_X8_isPlace : GoodIn wsX3_calmerOf wsX8_isPlace := goodIn_r _ [4] (by decide +kernel) (by decide +kernel)
set_option maxRecDepth 20000 in
theorem gX3_calmerOf_X8_isPlace_n55 : GoodIn wsX3_calmerOf (wsX8_isPlace) := ggX3_calmerOf_X8_isPlace
set_option maxRecDepth 20000 in
theorem ggX3_calmerOf_X8_placeOf : GoodIn wsX3_calmerOf wsX8_placeOf := goodIn_r _ [6] (by decide +kernel) (by decide +kernel)
set_option maxRecDepth 20000 in
theorem gX3_calmerOf_X8_placeOf_n49 : GoodIn wsX3_calmerOf (wsX8_placeOf) := ggX3_calmerOf_X8_placeOf
theorem dX3_calmerOf_0 : decode cX3_calmerOf 0 = .ok (.iload_n 2, 1) := by decide +kernel
theorem dX3_calmerOf_1 : decode cX3_calmerOf 1 = .ok (.iload_n 3, 1) := by decide +kernel
theorem dX3_calmerOf_2 : decode cX3_calmerOf 2 = .ok (.invokestatic 55, 3) := by decide +kernel
theorem dX3_calmerOf_5 : decode cX3_calmerOf 5 = .ok (.ifCond .eq 28, 3) := by decide +kernel
theorem dX3_calmerOf_8 : decode cX3_calmerOf 8 = .ok (.aload_n 0, 1) := by decide +kernel
theorem dX3_calmerOf_9 : decode cX3_calmerOf 9 = .ok (.getfield 9, 3) := by decide +kernel
theorem dX3_calmerOf_12 : decode cX3_calmerOf 12 = .ok (.iload_n 2, 1) := by decide +kernel
theorem dX3_calmerOf_13 : decode cX3_calmerOf 13 = .ok (.iload_n 3, 1) := by decide +kernel
theorem dX3_calmerOf_14 : decode cX3_calmerOf 14 = .ok (.invokestatic 49, 3) := by decide +kernel
theorem dX3_calmerOf_17 : decode cX3_calmerOf 17 = .ok (.iaload, 1) := by decide +kernel
theorem dX3_calmerOf_18 : decode cX3_calmerOf 18 = .ok (.aload_n 0, 1) := by decide +kernel
theorem dX3_calmerOf_19 : decode cX3_calmerOf 19 = .ok (.getfield 9, 3) := by decide +kernel
theorem dX3_calmerOf_22 : decode cX3_calmerOf 22 = .ok (.iload_n 1, 1) := by decide +kernel
theorem dX3_calmerOf_23 : decode cX3_calmerOf 23 = .ok (.iaload, 1) := by decide +kernel
theorem dX3_calmerOf_24 : decode cX3_calmerOf 24 = .ok (.if_icmp .ge 9, 3) := by decide +kernel
theorem dX3_calmerOf_27 : decode cX3_calmerOf 27 = .ok (.iload_n 2, 1) := by decide +kernel
theorem dX3_calmerOf_28 : decode cX3_calmerOf 28 = .ok (.iload_n 3, 1) := by decide +kernel
theorem dX3_calmerOf_29 : decode cX3_calmerOf 29 = .ok (.invokestatic 49, 3) := by decide +kernel
theorem dX3_calmerOf_32 : decode cX3_calmerOf 32 = .ok (.ireturn, 1) := by decide +kernel
theorem dX3_calmerOf_33 : decode cX3_calmerOf 33 = .ok (.iload_n 1, 1) := by decide +kernel
theorem dX3_calmerOf_34 : decode cX3_calmerOf 34 = .ok (.ireturn, 1) := by decide +kernel
set_option maxRecDepth 20000 in
theorem ggX3_strokeOnce_X3_shake : GoodIn wsX3_strokeOnce wsX3_shake := goodIn_r _ [8, 3, 2, 1, 9, 10, 11, 7, 12, 13, 14, 15, 16, 17, 18, 19, 20, 21, 22, 23, 24, 25, 26, 27, 28, 29, 30, 31, 32, 33, 34] (by decide +kernel) (by decide +kernel)
set_option maxRecDepth 20000 in
theorem gX3_strokeOnce_X3_shake : GoodIn wsX3_strokeOnce (wsV RX3 67 RX3 yX3_shake wsX3_shake) := goodIn_app (goodIn_of _ (by decide +kernel)) ggX3_strokeOnce_X3_shake
theorem dX3_strokeOnce_0 : decode cX3_strokeOnce 0 = .ok (.iconst 0, 1) := by decide +kernel
theorem dX3_strokeOnce_1 : decode cX3_strokeOnce 1 = .ok (.istore_n 1, 1) := by decide +kernel
theorem dX3_strokeOnce_2 : decode cX3_strokeOnce 2 = .ok (.iload_n 1, 1) := by decide +kernel
theorem dX3_strokeOnce_3 : decode cX3_strokeOnce 3 = .ok (.sipush 144, 3) := by decide +kernel
theorem dX3_strokeOnce_6 : decode cX3_strokeOnce 6 = .ok (.if_icmp .ge 16, 3) := by decide +kernel
theorem dX3_strokeOnce_9 : decode cX3_strokeOnce 9 = .ok (.aload_n 0, 1) := by decide +kernel
theorem dX3_strokeOnce_10 : decode cX3_strokeOnce 10 = .ok (.getfield 18, 3) := by decide +kernel
theorem dX3_strokeOnce_13 : decode cX3_strokeOnce 13 = .ok (.iload_n 1, 1) := by decide +kernel
theorem dX3_strokeOnce_14 : decode cX3_strokeOnce 14 = .ok (.iconst 0, 1) := by decide +kernel
theorem dX3_strokeOnce_15 : decode cX3_strokeOnce 15 = .ok (.iastore, 1) := by decide +kernel
theorem dX3_strokeOnce_16 : decode cX3_strokeOnce 16 = .ok (.iinc 1 1, 3) := by decide +kernel
theorem dX3_strokeOnce_19 : decode cX3_strokeOnce 19 = .ok (.goto (-17), 3) := by decide +kernel
theorem dX3_strokeOnce_22 : decode cX3_strokeOnce 22 = .ok (.iconst 0, 1) := by decide +kernel
theorem dX3_strokeOnce_23 : decode cX3_strokeOnce 23 = .ok (.istore_n 1, 1) := by decide +kernel
theorem dX3_strokeOnce_24 : decode cX3_strokeOnce 24 = .ok (.iload_n 1, 1) := by decide +kernel
theorem dX3_strokeOnce_25 : decode cX3_strokeOnce 25 = .ok (.sipush 144, 3) := by decide +kernel
theorem dX3_strokeOnce_28 : decode cX3_strokeOnce 28 = .ok (.if_icmp .ge 44, 3) := by decide +kernel
theorem dX3_strokeOnce_31 : decode cX3_strokeOnce 31 = .ok (.aload_n 0, 1) := by decide +kernel
theorem dX3_strokeOnce_32 : decode cX3_strokeOnce 32 = .ok (.getfield 9, 3) := by decide +kernel
theorem dX3_strokeOnce_35 : decode cX3_strokeOnce 35 = .ok (.iload_n 1, 1) := by decide +kernel
theorem dX3_strokeOnce_36 : decode cX3_strokeOnce 36 = .ok (.iaload, 1) := by decide +kernel
theorem dX3_strokeOnce_37 : decode cX3_strokeOnce 37 = .ok (.aload_n 0, 1) := by decide +kernel
theorem dX3_strokeOnce_38 : decode cX3_strokeOnce 38 = .ok (.getfield 25, 3) := by decide +kernel
theorem dX3_strokeOnce_41 : decode cX3_strokeOnce 41 = .ok (.getfield 59, 3) := by decide +kernel
theorem dX3_strokeOnce_44 : decode cX3_strokeOnce 44 = .ok (.iconst 2, 1) := by decide +kernel
theorem dX3_strokeOnce_45 : decode cX3_strokeOnce 45 = .ok (.iaload, 1) := by decide +kernel
theorem dX3_strokeOnce_46 : decode cX3_strokeOnce 46 = .ok (.if_icmp .le 20, 3) := by decide +kernel
theorem dX3_strokeOnce_49 : decode cX3_strokeOnce 49 = .ok (.aload_n 0, 1) := by decide +kernel
theorem dX3_strokeOnce_50 : decode cX3_strokeOnce 50 = .ok (.getfield 25, 3) := by decide +kernel
theorem dX3_strokeOnce_53 : decode cX3_strokeOnce 53 = .ok (.getfield 64, 3) := by decide +kernel
theorem dX3_strokeOnce_56 : decode cX3_strokeOnce 56 = .ok (.iload_n 1, 1) := by decide +kernel
theorem dX3_strokeOnce_57 : decode cX3_strokeOnce 57 = .ok (.iaload, 1) := by decide +kernel
theorem dX3_strokeOnce_58 : decode cX3_strokeOnce 58 = .ok (.ifCond .le 8, 3) := by decide +kernel
theorem dX3_strokeOnce_61 : decode cX3_strokeOnce 61 = .ok (.aload_n 0, 1) := by decide +kernel
theorem dX3_strokeOnce_62 : decode cX3_strokeOnce 62 = .ok (.iload_n 1, 1) := by decide +kernel
theorem dX3_strokeOnce_63 : decode cX3_strokeOnce 63 = .ok (.invokevirtual 67, 3) := by decide +kernel
theorem dX3_strokeOnce_66 : decode cX3_strokeOnce 66 = .ok (.iinc 1 1, 3) := by decide +kernel
theorem dX3_strokeOnce_69 : decode cX3_strokeOnce 69 = .ok (.goto (-45), 3) := by decide +kernel
theorem dX3_strokeOnce_72 : decode cX3_strokeOnce 72 = .ok (.iconst 0, 1) := by decide +kernel
theorem dX3_strokeOnce_73 : decode cX3_strokeOnce 73 = .ok (.istore_n 1, 1) := by decide +kernel
theorem dX3_strokeOnce_74 : decode cX3_strokeOnce 74 = .ok (.iload_n 1, 1) := by decide +kernel
theorem dX3_strokeOnce_75 : decode cX3_strokeOnce 75 = .ok (.sipush 144, 3) := by decide +kernel
theorem dX3_strokeOnce_78 : decode cX3_strokeOnce 78 = .ok (.if_icmp .ge 27, 3) := by decide +kernel
theorem dX3_strokeOnce_81 : decode cX3_strokeOnce 81 = .ok (.aload_n 0, 1) := by decide +kernel
theorem dX3_strokeOnce_82 : decode cX3_strokeOnce 82 = .ok (.getfield 25, 3) := by decide +kernel
theorem dX3_strokeOnce_85 : decode cX3_strokeOnce 85 = .ok (.getfield 64, 3) := by decide +kernel
theorem dX3_strokeOnce_88 : decode cX3_strokeOnce 88 = .ok (.iload_n 1, 1) := by decide +kernel
theorem dX3_strokeOnce_89 : decode cX3_strokeOnce 89 = .ok (.dup2, 1) := by decide +kernel
theorem dX3_strokeOnce_90 : decode cX3_strokeOnce 90 = .ok (.iaload, 1) := by decide +kernel
theorem dX3_strokeOnce_91 : decode cX3_strokeOnce 91 = .ok (.aload_n 0, 1) := by decide +kernel
theorem dX3_strokeOnce_92 : decode cX3_strokeOnce 92 = .ok (.getfield 18, 3) := by decide +kernel
theorem dX3_strokeOnce_95 : decode cX3_strokeOnce 95 = .ok (.iload_n 1, 1) := by decide +kernel
theorem dX3_strokeOnce_96 : decode cX3_strokeOnce 96 = .ok (.iaload, 1) := by decide +kernel
theorem dX3_strokeOnce_97 : decode cX3_strokeOnce 97 = .ok (.iadd, 1) := by decide +kernel
theorem dX3_strokeOnce_98 : decode cX3_strokeOnce 98 = .ok (.iastore, 1) := by decide +kernel
theorem dX3_strokeOnce_99 : decode cX3_strokeOnce 99 = .ok (.iinc 1 1, 3) := by decide +kernel
theorem dX3_strokeOnce_102 : decode cX3_strokeOnce 102 = .ok (.goto (-28), 3) := by decide +kernel
theorem dX3_strokeOnce_105 : decode cX3_strokeOnce 105 = .ok (.return_, 1) := by decide +kernel
set_option maxRecDepth 20000 in
theorem ggX3_shake_X3_isAtEdge : GoodIn wsX3_shake wsX3_isAtEdge := goodIn_r _ [8, 9, 10, 11, 12, 13] (by decide +kernel) (by decide +kernel)
set_option maxRecDepth 20000 in
theorem gX3_shake_X3_isAtEdge : GoodIn wsX3_shake (va_wsS RX3 71 yX3_isAtEdge wsX3_isAtEdge) := goodIn_app (goodIn_of _ (by decide +kernel)) ggX3_shake_X3_isAtEdge
theorem dX3_shake_0 : decode cX3_shake 0 = .ok (.aload_n 0, 1) := by decide +kernel
theorem dX3_shake_1 : decode cX3_shake 1 = .ok (.getfield 25, 3) := by decide +kernel
theorem dX3_shake_4 : decode cX3_shake 4 = .ok (.getfield 64, 3) := by decide +kernel
theorem dX3_shake_7 : decode cX3_shake 7 = .ok (.iload_n 1, 1) := by decide +kernel
theorem dX3_shake_8 : decode cX3_shake 8 = .ok (.iaload, 1) := by decide +kernel
theorem dX3_shake_9 : decode cX3_shake 9 = .ok (.iconst 1, 1) := by decide +kernel
theorem dX3_shake_10 : decode cX3_shake 10 = .ok (.iadd, 1) := by decide +kernel
theorem dX3_shake_11 : decode cX3_shake 11 = .ok (.iconst 2, 1) := by decide +kernel
theorem dX3_shake_12 : decode cX3_shake 12 = .ok (.idiv, 1) := by decide +kernel
theorem dX3_shake_13 : decode cX3_shake 13 = .ok (.istore_n 2, 1) := by decide +kernel
theorem dX3_shake_14 : decode cX3_shake 14 = .ok (.aload_n 0, 1) := by decide +kernel
theorem dX3_shake_15 : decode cX3_shake 15 = .ok (.getfield 25, 3) := by decide +kernel
theorem dX3_shake_18 : decode cX3_shake 18 = .ok (.getfield 64, 3) := by decide +kernel
theorem dX3_shake_21 : decode cX3_shake 21 = .ok (.iload_n 1, 1) := by decide +kernel
theorem dX3_shake_22 : decode cX3_shake 22 = .ok (.dup2, 1) := by decide +kernel
theorem dX3_shake_23 : decode cX3_shake 23 = .ok (.iaload, 1) := by decide +kernel
theorem dX3_shake_24 : decode cX3_shake 24 = .ok (.iload_n 2, 1) := by decide +kernel
theorem dX3_shake_25 : decode cX3_shake 25 = .ok (.isub, 1) := by decide +kernel
theorem dX3_shake_26 : decode cX3_shake 26 = .ok (.iastore, 1) := by decide +kernel
theorem dX3_shake_27 : decode cX3_shake 27 = .ok (.iload_n 1, 1) := by decide +kernel
theorem dX3_shake_28 : decode cX3_shake 28 = .ok (.invokestatic 71, 3) := by decide +kernel
theorem dX3_shake_31 : decode cX3_shake 31 = .ok (.ifCond .eq 37, 3) := by decide +kernel
theorem dX3_shake_34 : decode cX3_shake 34 = .ok (.aload_n 0, 1) := by decide +kernel
theorem dX3_shake_35 : decode cX3_shake 35 = .ok (.getfield 9, 3) := by decide +kernel
theorem dX3_shake_38 : decode cX3_shake 38 = .ok (.iload_n 1, 1) := by decide +kernel
theorem dX3_shake_39 : decode cX3_shake 39 = .ok (.iaload, 1) := by decide +kernel
theorem dX3_shake_40 : decode cX3_shake 40 = .ok (.aload_n 0, 1) := by decide +kernel
theorem dX3_shake_41 : decode cX3_shake 41 = .ok (.getfield 25, 3) := by decide +kernel
theorem dX3_shake_44 : decode cX3_shake 44 = .ok (.getfield 59, 3) := by decide +kernel
theorem dX3_shake_47 : decode cX3_shake 47 = .ok (.iconst 3, 1) := by decide +kernel
theorem dX3_shake_48 : decode cX3_shake 48 = .ok (.iaload, 1) := by decide +kernel
theorem dX3_shake_49 : decode cX3_shake 49 = .ok (.if_icmp .lt 19, 3) := by decide +kernel
theorem dX3_shake_52 : decode cX3_shake 52 = .ok (.iinc 2 (-1), 3) := by decide +kernel
theorem dX3_shake_55 : decode cX3_shake 55 = .ok (.aload_n 0, 1) := by decide +kernel
theorem dX3_shake_56 : decode cX3_shake 56 = .ok (.getfield 25, 3) := by decide +kernel
theorem dX3_shake_59 : decode cX3_shake 59 = .ok (.dup, 1) := by decide +kernel
theorem dX3_shake_60 : decode cX3_shake 60 = .ok (.getfield 75, 3) := by decide +kernel
theorem dX3_shake_63 : decode cX3_shake 63 = .ok (.iconst 1, 1) := by decide +kernel
theorem dX3_shake_64 : decode cX3_shake 64 = .ok (.iadd, 1) := by decide +kernel
theorem dX3_shake_65 : decode cX3_shake 65 = .ok (.putfield 75, 3) := by decide +kernel
theorem dX3_shake_68 : decode cX3_shake 68 = .ok (.aload_n 0, 1) := by decide +kernel
theorem dX3_shake_69 : decode cX3_shake 69 = .ok (.getfield 18, 3) := by decide +kernel
theorem dX3_shake_72 : decode cX3_shake 72 = .ok (.aload_n 0, 1) := by decide +kernel
theorem dX3_shake_73 : decode cX3_shake 73 = .ok (.getfield 15, 3) := by decide +kernel
theorem dX3_shake_76 : decode cX3_shake 76 = .ok (.iload_n 1, 1) := by decide +kernel
theorem dX3_shake_77 : decode cX3_shake 77 = .ok (.iaload, 1) := by decide +kernel
theorem dX3_shake_78 : decode cX3_shake 78 = .ok (.dup2, 1) := by decide +kernel
theorem dX3_shake_79 : decode cX3_shake 79 = .ok (.iaload, 1) := by decide +kernel
theorem dX3_shake_80 : decode cX3_shake 80 = .ok (.iload_n 2, 1) := by decide +kernel
theorem dX3_shake_81 : decode cX3_shake 81 = .ok (.iadd, 1) := by decide +kernel
theorem dX3_shake_82 : decode cX3_shake 82 = .ok (.iastore, 1) := by decide +kernel
theorem dX3_shake_83 : decode cX3_shake 83 = .ok (.return_, 1) := by decide +kernel
set_option maxRecDepth 20000 in
theorem ggX3_isAtEdge_X8_columnOf : GoodIn wsX3_isAtEdge wsX8_columnOf := goodIn_r _ [3] (by decide +kernel) (by decide +kernel)
set_option maxRecDepth 20000 in
theorem gX3_isAtEdge_X8_columnOf_n29 : GoodIn wsX3_isAtEdge (wsX8_columnOf) := ggX3_isAtEdge_X8_columnOf
set_option maxRecDepth 20000 in
theorem ggX3_isAtEdge_X8_rowOf : GoodIn wsX3_isAtEdge wsX8_rowOf := goodIn_r _ [5] (by decide +kernel) (by decide +kernel)
set_option maxRecDepth 20000 in
theorem gX3_isAtEdge_X8_rowOf_n33 : GoodIn wsX3_isAtEdge (wsX8_rowOf) := ggX3_isAtEdge_X8_rowOf
theorem dX3_isAtEdge_0 : decode cX3_isAtEdge 0 = .ok (.iload_n 0, 1) := by decide +kernel
theorem dX3_isAtEdge_1 : decode cX3_isAtEdge 1 = .ok (.invokestatic 29, 3) := by decide +kernel
theorem dX3_isAtEdge_4 : decode cX3_isAtEdge 4 = .ok (.istore_n 1, 1) := by decide +kernel
theorem dX3_isAtEdge_5 : decode cX3_isAtEdge 5 = .ok (.iload_n 0, 1) := by decide +kernel
theorem dX3_isAtEdge_6 : decode cX3_isAtEdge 6 = .ok (.invokestatic 33, 3) := by decide +kernel
theorem dX3_isAtEdge_9 : decode cX3_isAtEdge 9 = .ok (.istore_n 2, 1) := by decide +kernel
theorem dX3_isAtEdge_10 : decode cX3_isAtEdge 10 = .ok (.iload_n 1, 1) := by decide +kernel
theorem dX3_isAtEdge_11 : decode cX3_isAtEdge 11 = .ok (.ifCond .eq 19, 3) := by decide +kernel
theorem dX3_isAtEdge_14 : decode cX3_isAtEdge 14 = .ok (.iload_n 2, 1) := by decide +kernel
theorem dX3_isAtEdge_15 : decode cX3_isAtEdge 15 = .ok (.ifCond .eq 15, 3) := by decide +kernel
theorem dX3_isAtEdge_18 : decode cX3_isAtEdge 18 = .ok (.iload_n 1, 1) := by decide +kernel
theorem dX3_isAtEdge_19 : decode cX3_isAtEdge 19 = .ok (.bipush 11, 2) := by decide +kernel
theorem dX3_isAtEdge_21 : decode cX3_isAtEdge 21 = .ok (.if_icmp .eq 9, 3) := by decide +kernel
theorem dX3_isAtEdge_24 : decode cX3_isAtEdge 24 = .ok (.iload_n 2, 1) := by decide +kernel
theorem dX3_isAtEdge_25 : decode cX3_isAtEdge 25 = .ok (.bipush 11, 2) := by decide +kernel
theorem dX3_isAtEdge_27 : decode cX3_isAtEdge 27 = .ok (.if_icmp .ne 7, 3) := by decide +kernel
theorem dX3_isAtEdge_30 : decode cX3_isAtEdge 30 = .ok (.iconst 1, 1) := by decide +kernel
theorem dX3_isAtEdge_31 : decode cX3_isAtEdge 31 = .ok (.goto 4, 3) := by decide +kernel
theorem dX3_isAtEdge_34 : decode cX3_isAtEdge 34 = .ok (.iconst 0, 1) := by decide +kernel
theorem dX3_isAtEdge_35 : decode cX3_isAtEdge 35 = .ok (.ireturn, 1) := by decide +kernel
end
section
theorem dX4_init_0 : decode cX4_init 0 = .ok (.aload_n 0, 1) := by decide +kernel
theorem dX4_init_1 : decode cX4_init 1 = .ok (.invokespecial 1, 3) := by decide +kernel
theorem dX4_init_4 : decode cX4_init 4 = .ok (.aload_n 0, 1) := by decide +kernel
theorem dX4_init_5 : decode cX4_init 5 = .ok (.iconst 0, 1) := by decide +kernel
theorem dX4_init_6 : decode cX4_init 6 = .ok (.putfield 7, 3) := by decide +kernel
theorem dX4_init_9 : decode cX4_init 9 = .ok (.aload_n 0, 1) := by decide +kernel
theorem dX4_init_10 : decode cX4_init 10 = .ok (.iload_n 1, 1) := by decide +kernel
theorem dX4_init_11 : decode cX4_init 11 = .ok (.iconst 0, 1) := by decide +kernel
theorem dX4_init_12 : decode cX4_init 12 = .ok (.invokestatic 13, 3) := by decide +kernel
theorem dX4_init_15 : decode cX4_init 15 = .ok (.putfield 19, 3) := by decide +kernel
theorem dX4_init_18 : decode cX4_init 18 = .ok (.aload_n 0, 1) := by decide +kernel
theorem dX4_init_19 : decode cX4_init 19 = .ok (.aload_n 0, 1) := by decide +kernel
theorem dX4_init_20 : decode cX4_init 20 = .ok (.getfield 19, 3) := by decide +kernel
theorem dX4_init_23 : decode cX4_init 23 = .ok (.newarray .int, 2) := by decide +kernel
theorem dX4_init_25 : decode cX4_init 25 = .ok (.putfield 22, 3) := by decide +kernel
theorem dX4_init_28 : decode cX4_init 28 = .ok (.aload_n 0, 1) := by decide +kernel
theorem dX4_init_29 : decode cX4_init 29 = .ok (.aload_n 0, 1) := by decide +kernel
theorem dX4_init_30 : decode cX4_init 30 = .ok (.getfield 19, 3) := by decide +kernel
theorem dX4_init_33 : decode cX4_init 33 = .ok (.newarray .int, 2) := by decide +kernel
theorem dX4_init_35 : decode cX4_init 35 = .ok (.putfield 26, 3) := by decide +kernel
theorem dX4_init_38 : decode cX4_init 38 = .ok (.aload_n 0, 1) := by decide +kernel
theorem dX4_init_39 : decode cX4_init 39 = .ok (.aload_n 0, 1) := by decide +kernel
theorem dX4_init_40 : decode cX4_init 40 = .ok (.getfield 19, 3) := by decide +kernel
theorem dX4_init_43 : decode cX4_init 43 = .ok (.newarray .int, 2) := by decide +kernel
theorem dX4_init_45 : decode cX4_init 45 = .ok (.putfield 29, 3) := by decide +kernel
theorem dX4_init_48 : decode cX4_init 48 = .ok (.return_, 1) := by decide +kernel
theorem dX4_append_0 : decode cX4_append 0 = .ok (.aload_n 0, 1) := by decide +kernel
theorem dX4_append_1 : decode cX4_append 1 = .ok (.getfield 7, 3) := by decide +kernel
theorem dX4_append_4 : decode cX4_append 4 = .ok (.aload_n 0, 1) := by decide +kernel
theorem dX4_append_5 : decode cX4_append 5 = .ok (.getfield 19, 3) := by decide +kernel
theorem dX4_append_8 : decode cX4_append 8 = .ok (.if_icmp .ge 43, 3) := by decide +kernel
theorem dX4_append_11 : decode cX4_append 11 = .ok (.aload_n 0, 1) := by decide +kernel
theorem dX4_append_12 : decode cX4_append 12 = .ok (.getfield 22, 3) := by decide +kernel
theorem dX4_append_15 : decode cX4_append 15 = .ok (.aload_n 0, 1) := by decide +kernel
theorem dX4_append_16 : decode cX4_append 16 = .ok (.getfield 7, 3) := by decide +kernel
theorem dX4_append_19 : decode cX4_append 19 = .ok (.iload_n 1, 1) := by decide +kernel
theorem dX4_append_20 : decode cX4_append 20 = .ok (.iastore, 1) := by decide +kernel
theorem dX4_append_21 : decode cX4_append 21 = .ok (.aload_n 0, 1) := by decide +kernel
theorem dX4_append_22 : decode cX4_append 22 = .ok (.getfield 26, 3) := by decide +kernel
theorem dX4_append_25 : decode cX4_append 25 = .ok (.aload_n 0, 1) := by decide +kernel
theorem dX4_append_26 : decode cX4_append 26 = .ok (.getfield 7, 3) := by decide +kernel
theorem dX4_append_29 : decode cX4_append 29 = .ok (.iload_n 2, 1) := by decide +kernel
theorem dX4_append_30 : decode cX4_append 30 = .ok (.iastore, 1) := by decide +kernel
theorem dX4_append_31 : decode cX4_append 31 = .ok (.aload_n 0, 1) := by decide +kernel
theorem dX4_append_32 : decode cX4_append 32 = .ok (.getfield 29, 3) := by decide +kernel
theorem dX4_append_35 : decode cX4_append 35 = .ok (.aload_n 0, 1) := by decide +kernel
theorem dX4_append_36 : decode cX4_append 36 = .ok (.getfield 7, 3) := by decide +kernel
theorem dX4_append_39 : decode cX4_append 39 = .ok (.iload_n 3, 1) := by decide +kernel
theorem dX4_append_40 : decode cX4_append 40 = .ok (.iastore, 1) := by decide +kernel
theorem dX4_append_41 : decode cX4_append 41 = .ok (.aload_n 0, 1) := by decide +kernel
theorem dX4_append_42 : decode cX4_append 42 = .ok (.dup, 1) := by decide +kernel
theorem dX4_append_43 : decode cX4_append 43 = .ok (.getfield 7, 3) := by decide +kernel
theorem dX4_append_46 : decode cX4_append 46 = .ok (.iconst 1, 1) := by decide +kernel
theorem dX4_append_47 : decode cX4_append 47 = .ok (.iadd, 1) := by decide +kernel
theorem dX4_append_48 : decode cX4_append 48 = .ok (.putfield 7, 3) := by decide +kernel
theorem dX4_append_51 : decode cX4_append 51 = .ok (.return_, 1) := by decide +kernel
set_option maxRecDepth 20000 in
theorem ggX4_appendAll_X4_append : GoodIn wsX4_appendAll wsX4_append := goodIn_r _ [9, 1, 10, 2, 3, 4, 11, 12, 13, 14, 15] (by decide +kernel) (by decide +kernel)
set_option maxRecDepth 20000 in
theorem gX4_appendAll_X4_append : GoodIn wsX4_appendAll (wsV RX4 32 RX4 yX4_append wsX4_append) := goodIn_app (goodIn_of _ (by decide +kernel)) ggX4_appendAll_X4_append
theorem dX4_appendAll_0 : decode cX4_appendAll 0 = .ok (.iconst 0, 1) := by decide +kernel
theorem dX4_appendAll_1 : decode cX4_appendAll 1 = .ok (.istore_n 2, 1) := by decide +kernel
theorem dX4_appendAll_2 : decode cX4_appendAll 2 = .ok (.iload_n 2, 1) := by decide +kernel
theorem dX4_appendAll_3 : decode cX4_appendAll 3 = .ok (.aload_n 1, 1) := by decide +kernel
theorem dX4_appendAll_4 : decode cX4_appendAll 4 = .ok (.getfield 7, 3) := by decide +kernel
theorem dX4_appendAll_7 : decode cX4_appendAll 7 = .ok (.if_icmp .ge 31, 3) := by decide +kernel
theorem dX4_appendAll_10 : decode cX4_appendAll 10 = .ok (.aload_n 0, 1) := by decide +kernel
theorem dX4_appendAll_11 : decode cX4_appendAll 11 = .ok (.aload_n 1, 1) := by decide +kernel
theorem dX4_appendAll_12 : decode cX4_appendAll 12 = .ok (.getfield 22, 3) := by decide +kernel
theorem dX4_appendAll_15 : decode cX4_appendAll 15 = .ok (.iload_n 2, 1) := by decide +kernel
theorem dX4_appendAll_16 : decode cX4_appendAll 16 = .ok (.iaload, 1) := by decide +kernel
theorem dX4_appendAll_17 : decode cX4_appendAll 17 = .ok (.aload_n 1, 1) := by decide +kernel
theorem dX4_appendAll_18 : decode cX4_appendAll 18 = .ok (.getfield 26, 3) := by decide +kernel
theorem dX4_appendAll_21 : decode cX4_appendAll 21 = .ok (.iload_n 2, 1) := by decide +kernel
theorem dX4_appendAll_22 : decode cX4_appendAll 22 = .ok (.iaload, 1) := by decide +kernel
theorem dX4_appendAll_23 : decode cX4_appendAll 23 = .ok (.aload_n 1, 1) := by decide +kernel
theorem dX4_appendAll_24 : decode cX4_appendAll 24 = .ok (.getfield 29, 3) := by decide +kernel
theorem dX4_appendAll_27 : decode cX4_appendAll 27 = .ok (.iload_n 2, 1) := by decide +kernel
theorem dX4_appendAll_28 : decode cX4_appendAll 28 = .ok (.iaload, 1) := by decide +kernel
theorem dX4_appendAll_29 : decode cX4_appendAll 29 = .ok (.invokevirtual 32, 3) := by decide +kernel
theorem dX4_appendAll_32 : decode cX4_appendAll 32 = .ok (.iinc 2 1, 3) := by decide +kernel
theorem dX4_appendAll_35 : decode cX4_appendAll 35 = .ok (.goto (-33), 3) := by decide +kernel
theorem dX4_appendAll_38 : decode cX4_appendAll 38 = .ok (.return_, 1) := by decide +kernel
set_option maxRecDepth 20000 in
theorem ggX4_copyFrom_X4_appendAll : GoodIn wsX4_copyFrom wsX4_appendAll := goodIn_r _ [6, 1, 7, 8, 9, 10, 11, 12, 5, 13, 14, 15, 16, 17, 18, 19] (by decide +kernel) (by decide +kernel)
set_option maxRecDepth 20000 in
theorem gX4_copyFrom_X4_appendAll : GoodIn wsX4_copyFrom (wsV RX4 36 RX4 yX4_appendAll wsX4_appendAll) := goodIn_app (goodIn_of _ (by decide +kernel)) ggX4_copyFrom_X4_appendAll
theorem dX4_copyFrom_0 : decode cX4_copyFrom 0 = .ok (.aload_n 0, 1) := by decide +kernel
theorem dX4_copyFrom_1 : decode cX4_copyFrom 1 = .ok (.iconst 0, 1) := by decide +kernel
theorem dX4_copyFrom_2 : decode cX4_copyFrom 2 = .ok (.putfield 7, 3) := by decide +kernel
theorem dX4_copyFrom_5 : decode cX4_copyFrom 5 = .ok (.aload_n 0, 1) := by decide +kernel
theorem dX4_copyFrom_6 : decode cX4_copyFrom 6 = .ok (.aload_n 1, 1) := by decide +kernel
theorem dX4_copyFrom_7 : decode cX4_copyFrom 7 = .ok (.invokevirtual 36, 3) := by decide +kernel
theorem dX4_copyFrom_10 : decode cX4_copyFrom 10 = .ok (.return_, 1) := by decide +kernel
set_option maxRecDepth 20000 in
theorem ggX4_dropFirst_X4_append : GoodIn wsX4_dropFirst wsX4_append := goodIn_r _ [13, 1, 14, 6, 7, 8, 15, 16, 17, 18, 19] (by decide +kernel) (by decide +kernel)
set_option maxRecDepth 20000 in
theorem gX4_dropFirst_X4_append : GoodIn wsX4_dropFirst (wsV RX4 32 RX4 yX4_append wsX4_append) := goodIn_app (goodIn_of _ (by decide +kernel)) ggX4_dropFirst_X4_append
theorem dX4_dropFirst_0 : decode cX4_dropFirst 0 = .ok (.aload_n 0, 1) := by decide +kernel
theorem dX4_dropFirst_1 : decode cX4_dropFirst 1 = .ok (.getfield 7, 3) := by decide +kernel
theorem dX4_dropFirst_4 : decode cX4_dropFirst 4 = .ok (.istore_n 2, 1) := by decide +kernel
theorem dX4_dropFirst_5 : decode cX4_dropFirst 5 = .ok (.aload_n 0, 1) := by decide +kernel
theorem dX4_dropFirst_6 : decode cX4_dropFirst 6 = .ok (.iconst 0, 1) := by decide +kernel
theorem dX4_dropFirst_7 : decode cX4_dropFirst 7 = .ok (.putfield 7, 3) := by decide +kernel
theorem dX4_dropFirst_10 : decode cX4_dropFirst 10 = .ok (.iload_n 1, 1) := by decide +kernel
theorem dX4_dropFirst_11 : decode cX4_dropFirst 11 = .ok (.iconst 0, 1) := by decide +kernel
theorem dX4_dropFirst_12 : decode cX4_dropFirst 12 = .ok (.invokestatic 13, 3) := by decide +kernel
theorem dX4_dropFirst_15 : decode cX4_dropFirst 15 = .ok (.istore_n 3, 1) := by decide +kernel
theorem dX4_dropFirst_16 : decode cX4_dropFirst 16 = .ok (.iload_n 3, 1) := by decide +kernel
theorem dX4_dropFirst_17 : decode cX4_dropFirst 17 = .ok (.iload_n 2, 1) := by decide +kernel
theorem dX4_dropFirst_18 : decode cX4_dropFirst 18 = .ok (.if_icmp .ge 31, 3) := by decide +kernel
theorem dX4_dropFirst_21 : decode cX4_dropFirst 21 = .ok (.aload_n 0, 1) := by decide +kernel
theorem dX4_dropFirst_22 : decode cX4_dropFirst 22 = .ok (.aload_n 0, 1) := by decide +kernel
theorem dX4_dropFirst_23 : decode cX4_dropFirst 23 = .ok (.getfield 22, 3) := by decide +kernel
theorem dX4_dropFirst_26 : decode cX4_dropFirst 26 = .ok (.iload_n 3, 1) := by decide +kernel
theorem dX4_dropFirst_27 : decode cX4_dropFirst 27 = .ok (.iaload, 1) := by decide +kernel
theorem dX4_dropFirst_28 : decode cX4_dropFirst 28 = .ok (.aload_n 0, 1) := by decide +kernel
theorem dX4_dropFirst_29 : decode cX4_dropFirst 29 = .ok (.getfield 26, 3) := by decide +kernel
theorem dX4_dropFirst_32 : decode cX4_dropFirst 32 = .ok (.iload_n 3, 1) := by decide +kernel
theorem dX4_dropFirst_33 : decode cX4_dropFirst 33 = .ok (.iaload, 1) := by decide +kernel
theorem dX4_dropFirst_34 : decode cX4_dropFirst 34 = .ok (.aload_n 0, 1) := by decide +kernel
theorem dX4_dropFirst_35 : decode cX4_dropFirst 35 = .ok (.getfield 29, 3) := by decide +kernel
theorem dX4_dropFirst_38 : decode cX4_dropFirst 38 = .ok (.iload_n 3, 1) := by decide +kernel
theorem dX4_dropFirst_39 : decode cX4_dropFirst 39 = .ok (.iaload, 1) := by decide +kernel
theorem dX4_dropFirst_40 : decode cX4_dropFirst 40 = .ok (.invokevirtual 32, 3) := by decide +kernel
theorem dX4_dropFirst_43 : decode cX4_dropFirst 43 = .ok (.iinc 3 1, 3) := by decide +kernel
theorem dX4_dropFirst_46 : decode cX4_dropFirst 46 = .ok (.goto (-30), 3) := by decide +kernel
theorem dX4_dropFirst_49 : decode cX4_dropFirst 49 = .ok (.return_, 1) := by decide +kernel
theorem dX4_sizeAt_0 : decode cX4_sizeAt 0 = .ok (.iconst 0, 1) := by decide +kernel
theorem dX4_sizeAt_1 : decode cX4_sizeAt 1 = .ok (.istore_n 2, 1) := by decide +kernel
theorem dX4_sizeAt_2 : decode cX4_sizeAt 2 = .ok (.iconst 0, 1) := by decide +kernel
theorem dX4_sizeAt_3 : decode cX4_sizeAt 3 = .ok (.istore_n 3, 1) := by decide +kernel
theorem dX4_sizeAt_4 : decode cX4_sizeAt 4 = .ok (.iload_n 3, 1) := by decide +kernel
theorem dX4_sizeAt_5 : decode cX4_sizeAt 5 = .ok (.aload_n 0, 1) := by decide +kernel
theorem dX4_sizeAt_6 : decode cX4_sizeAt 6 = .ok (.getfield 7, 3) := by decide +kernel
theorem dX4_sizeAt_9 : decode cX4_sizeAt 9 = .ok (.if_icmp .ge 22, 3) := by decide +kernel
theorem dX4_sizeAt_12 : decode cX4_sizeAt 12 = .ok (.aload_n 0, 1) := by decide +kernel
theorem dX4_sizeAt_13 : decode cX4_sizeAt 13 = .ok (.getfield 22, 3) := by decide +kernel
theorem dX4_sizeAt_16 : decode cX4_sizeAt 16 = .ok (.iload_n 3, 1) := by decide +kernel
theorem dX4_sizeAt_17 : decode cX4_sizeAt 17 = .ok (.iaload, 1) := by decide +kernel
theorem dX4_sizeAt_18 : decode cX4_sizeAt 18 = .ok (.iload_n 1, 1) := by decide +kernel
theorem dX4_sizeAt_19 : decode cX4_sizeAt 19 = .ok (.if_icmp .ne 6, 3) := by decide +kernel
theorem dX4_sizeAt_22 : decode cX4_sizeAt 22 = .ok (.iinc 2 1, 3) := by decide +kernel
theorem dX4_sizeAt_25 : decode cX4_sizeAt 25 = .ok (.iinc 3 1, 3) := by decide +kernel
theorem dX4_sizeAt_28 : decode cX4_sizeAt 28 = .ok (.goto (-24), 3) := by decide +kernel
theorem dX4_sizeAt_31 : decode cX4_sizeAt 31 = .ok (.iload_n 2, 1) := by decide +kernel
theorem dX4_sizeAt_32 : decode cX4_sizeAt 32 = .ok (.ireturn, 1) := by decide +kernel
set_option maxRecDepth 20000 in
theorem ggX4_dropSide_X4_append : GoodIn wsX4_dropSide wsX4_append := goodIn_r _ [9, 1, 10, 2, 3, 4, 11, 12, 13, 14, 15] (by decide +kernel) (by decide +kernel)
set_option maxRecDepth 20000 in
theorem gX4_dropSide_X4_append : GoodIn wsX4_dropSide (wsV RX4 32 RX4 yX4_append wsX4_append) := goodIn_app (goodIn_of _ (by decide +kernel)) ggX4_dropSide_X4_append
theorem dX4_dropSide_0 : decode cX4_dropSide 0 = .ok (.aload_n 0, 1) := by decide +kernel
theorem dX4_dropSide_1 : decode cX4_dropSide 1 = .ok (.getfield 7, 3) := by decide +kernel
theorem dX4_dropSide_4 : decode cX4_dropSide 4 = .ok (.istore_n 2, 1) := by decide +kernel
theorem dX4_dropSide_5 : decode cX4_dropSide 5 = .ok (.aload_n 0, 1) := by decide +kernel
theorem dX4_dropSide_6 : decode cX4_dropSide 6 = .ok (.iconst 0, 1) := by decide +kernel
theorem dX4_dropSide_7 : decode cX4_dropSide 7 = .ok (.putfield 7, 3) := by decide +kernel
theorem dX4_dropSide_10 : decode cX4_dropSide 10 = .ok (.iconst 0, 1) := by decide +kernel
theorem dX4_dropSide_11 : decode cX4_dropSide 11 = .ok (.istore_n 3, 1) := by decide +kernel
theorem dX4_dropSide_12 : decode cX4_dropSide 12 = .ok (.iload_n 3, 1) := by decide +kernel
theorem dX4_dropSide_13 : decode cX4_dropSide 13 = .ok (.iload_n 2, 1) := by decide +kernel
theorem dX4_dropSide_14 : decode cX4_dropSide 14 = .ok (.if_icmp .ge 41, 3) := by decide +kernel
theorem dX4_dropSide_17 : decode cX4_dropSide 17 = .ok (.aload_n 0, 1) := by decide +kernel
theorem dX4_dropSide_18 : decode cX4_dropSide 18 = .ok (.getfield 22, 3) := by decide +kernel
theorem dX4_dropSide_21 : decode cX4_dropSide 21 = .ok (.iload_n 3, 1) := by decide +kernel
theorem dX4_dropSide_22 : decode cX4_dropSide 22 = .ok (.iaload, 1) := by decide +kernel
theorem dX4_dropSide_23 : decode cX4_dropSide 23 = .ok (.iload_n 1, 1) := by decide +kernel
theorem dX4_dropSide_24 : decode cX4_dropSide 24 = .ok (.if_icmp .eq 25, 3) := by decide +kernel
theorem dX4_dropSide_27 : decode cX4_dropSide 27 = .ok (.aload_n 0, 1) := by decide +kernel
theorem dX4_dropSide_28 : decode cX4_dropSide 28 = .ok (.aload_n 0, 1) := by decide +kernel
theorem dX4_dropSide_29 : decode cX4_dropSide 29 = .ok (.getfield 22, 3) := by decide +kernel
theorem dX4_dropSide_32 : decode cX4_dropSide 32 = .ok (.iload_n 3, 1) := by decide +kernel
theorem dX4_dropSide_33 : decode cX4_dropSide 33 = .ok (.iaload, 1) := by decide +kernel
theorem dX4_dropSide_34 : decode cX4_dropSide 34 = .ok (.aload_n 0, 1) := by decide +kernel
theorem dX4_dropSide_35 : decode cX4_dropSide 35 = .ok (.getfield 26, 3) := by decide +kernel
theorem dX4_dropSide_38 : decode cX4_dropSide 38 = .ok (.iload_n 3, 1) := by decide +kernel
theorem dX4_dropSide_39 : decode cX4_dropSide 39 = .ok (.iaload, 1) := by decide +kernel
theorem dX4_dropSide_40 : decode cX4_dropSide 40 = .ok (.aload_n 0, 1) := by decide +kernel
theorem dX4_dropSide_41 : decode cX4_dropSide 41 = .ok (.getfield 29, 3) := by decide +kernel
theorem dX4_dropSide_44 : decode cX4_dropSide 44 = .ok (.iload_n 3, 1) := by decide +kernel
theorem dX4_dropSide_45 : decode cX4_dropSide 45 = .ok (.iaload, 1) := by decide +kernel
theorem dX4_dropSide_46 : decode cX4_dropSide 46 = .ok (.invokevirtual 32, 3) := by decide +kernel
theorem dX4_dropSide_49 : decode cX4_dropSide 49 = .ok (.iinc 3 1, 3) := by decide +kernel
theorem dX4_dropSide_52 : decode cX4_dropSide 52 = .ok (.goto (-40), 3) := by decide +kernel
theorem dX4_dropSide_55 : decode cX4_dropSide 55 = .ok (.iload_n 2, 1) := by decide +kernel
theorem dX4_dropSide_56 : decode cX4_dropSide 56 = .ok (.aload_n 0, 1) := by decide +kernel
theorem dX4_dropSide_57 : decode cX4_dropSide 57 = .ok (.getfield 7, 3) := by decide +kernel
theorem dX4_dropSide_60 : decode cX4_dropSide 60 = .ok (.isub, 1) := by decide +kernel
theorem dX4_dropSide_61 : decode cX4_dropSide 61 = .ok (.ireturn, 1) := by decide +kernel
set_option maxRecDepth 20000 in
theorem ggX5_init_X4_init : GoodIn wsX5_init wsX4_init := goodIn_r _ [26, 27, 2, 3, 28, 29, 30, 31, 32, 33, 4, 34, 35, 36, 54, 55, 56, 57, 58] (by decide +kernel) (by decide +kernel)
set_option maxRecDepth 20000 in
theorem gX5_init_X4_init : GoodIn wsX5_init (wsX4_init) := ggX5_init_X4_init
set_option maxRecDepth 20000 in
theorem ggX5_init_X5_coverWith : GoodIn wsX5_init wsX5_coverWith := goodIn_r _ [41, 5, 42, 43, 44, 45, 46, 47, 48, 49, 50, 51, 52, 53] (by decide +kernel) (by decide +kernel)
set_option maxRecDepth 20000 in
theorem gX5_init_X5_coverWith : GoodIn wsX5_init (wsV RX5 55 RX5 yX5_coverWith wsX5_coverWith) := goodIn_app (goodIn_of _ (by decide +kernel)) ggX5_init_X5_coverWith
theorem dX5_init_0 : decode cX5_init 0 = .ok (.aload_n 0, 1) := by decide +kernel
theorem dX5_init_1 : decode cX5_init 1 = .ok (.invokespecial 3, 3) := by decide +kernel
theorem dX5_init_4 : decode cX5_init 4 = .ok (.aload_n 0, 1) := by decide +kernel
theorem dX5_init_5 : decode cX5_init 5 = .ok (.sipush 144, 3) := by decide +kernel
theorem dX5_init_8 : decode cX5_init 8 = .ok (.newarray .int, 2) := by decide +kernel
theorem dX5_init_10 : decode cX5_init 10 = .ok (.putfield 9, 3) := by decide +kernel
theorem dX5_init_13 : decode cX5_init 13 = .ok (.aload_n 0, 1) := by decide +kernel
theorem dX5_init_14 : decode cX5_init 14 = .ok (.iconst 4, 1) := by decide +kernel
theorem dX5_init_15 : decode cX5_init 15 = .ok (.newarray .int, 2) := by decide +kernel
theorem dX5_init_17 : decode cX5_init 17 = .ok (.putfield 15, 3) := by decide +kernel
theorem dX5_init_20 : decode cX5_init 20 = .ok (.aload_n 0, 1) := by decide +kernel
theorem dX5_init_21 : decode cX5_init 21 = .ok (.iconst 4, 1) := by decide +kernel
theorem dX5_init_22 : decode cX5_init 22 = .ok (.newarray .int, 2) := by decide +kernel
theorem dX5_init_24 : decode cX5_init 24 = .ok (.putfield 18, 3) := by decide +kernel
theorem dX5_init_27 : decode cX5_init 27 = .ok (.aload_n 0, 1) := by decide +kernel
theorem dX5_init_28 : decode cX5_init 28 = .ok (.iconst 0, 1) := by decide +kernel
theorem dX5_init_29 : decode cX5_init 29 = .ok (.putfield 21, 3) := by decide +kernel
theorem dX5_init_32 : decode cX5_init 32 = .ok (.aload_n 0, 1) := by decide +kernel
theorem dX5_init_33 : decode cX5_init 33 = .ok (.iconst 4, 1) := by decide +kernel
theorem dX5_init_34 : decode cX5_init 34 = .ok (.newarray .int, 2) := by decide +kernel
theorem dX5_init_36 : decode cX5_init 36 = .ok (.putfield 25, 3) := by decide +kernel
theorem dX5_init_39 : decode cX5_init 39 = .ok (.aload_n 0, 1) := by decide +kernel
theorem dX5_init_40 : decode cX5_init 40 = .ok (.new 28, 3) := by decide +kernel
theorem dX5_init_43 : decode cX5_init 43 = .ok (.dup, 1) := by decide +kernel
theorem dX5_init_44 : decode cX5_init 44 = .ok (.bipush 16, 2) := by decide +kernel
theorem dX5_init_46 : decode cX5_init 46 = .ok (.invokespecial 30, 3) := by decide +kernel
theorem dX5_init_49 : decode cX5_init 49 = .ok (.putfield 33, 3) := by decide +kernel
theorem dX5_init_52 : decode cX5_init 52 = .ok (.aload_n 0, 1) := by decide +kernel
theorem dX5_init_53 : decode cX5_init 53 = .ok (.iconst (-1), 1) := by decide +kernel
theorem dX5_init_54 : decode cX5_init 54 = .ok (.putfield 37, 3) := by decide +kernel
theorem dX5_init_57 : decode cX5_init 57 = .ok (.aload_n 0, 1) := by decide +kernel
theorem dX5_init_58 : decode cX5_init 58 = .ok (.sipush 720, 3) := by decide +kernel
theorem dX5_init_61 : decode cX5_init 61 = .ok (.putfield 40, 3) := by decide +kernel
theorem dX5_init_64 : decode cX5_init 64 = .ok (.aload_n 0, 1) := by decide +kernel
theorem dX5_init_65 : decode cX5_init 65 = .ok (.iconst 0, 1) := by decide +kernel
theorem dX5_init_66 : decode cX5_init 66 = .ok (.putfield 43, 3) := by decide +kernel
theorem dX5_init_69 : decode cX5_init 69 = .ok (.aload_n 0, 1) := by decide +kernel
theorem dX5_init_70 : decode cX5_init 70 = .ok (.iconst 0, 1) := by decide +kernel
theorem dX5_init_71 : decode cX5_init 71 = .ok (.putfield 46, 3) := by decide +kernel
theorem dX5_init_74 : decode cX5_init 74 = .ok (.aload_n 0, 1) := by decide +kernel
theorem dX5_init_75 : decode cX5_init 75 = .ok (.iconst 0, 1) := by decide +kernel
theorem dX5_init_76 : decode cX5_init 76 = .ok (.putfield 49, 3) := by decide +kernel
theorem dX5_init_79 : decode cX5_init 79 = .ok (.aload_n 0, 1) := by decide +kernel
theorem dX5_init_80 : decode cX5_init 80 = .ok (.iconst 0, 1) := by decide +kernel
theorem dX5_init_81 : decode cX5_init 81 = .ok (.putfield 52, 3) := by decide +kernel
theorem dX5_init_84 : decode cX5_init 84 = .ok (.aload_n 0, 1) := by decide +kernel
theorem dX5_init_85 : decode cX5_init 85 = .ok (.iconst 5, 1) := by decide +kernel
theorem dX5_init_86 : decode cX5_init 86 = .ok (.invokevirtual 55, 3) := by decide +kernel
theorem dX5_init_89 : decode cX5_init 89 = .ok (.getstatic 58, 3) := by decide +kernel
theorem dX5_init_92 : decode cX5_init 92 = .ok (.iconst 0, 1) := by decide +kernel
theorem dX5_init_93 : decode cX5_init 93 = .ok (.aload_n 0, 1) := by decide +kernel
theorem dX5_init_94 : decode cX5_init 94 = .ok (.getfield 25, 3) := by decide +kernel
theorem dX5_init_97 : decode cX5_init 97 = .ok (.iconst 0, 1) := by decide +kernel
theorem dX5_init_98 : decode cX5_init 98 = .ok (.iconst 4, 1) := by decide +kernel
theorem dX5_init_99 : decode cX5_init 99 = .ok (.invokestatic 61, 3) := by decide +kernel
theorem dX5_init_102 : decode cX5_init 102 = .ok (.return_, 1) := by decide +kernel
set_option maxRecDepth 20000 in
theorem ggX5_copyFrom_X4_copyFrom : GoodIn wsX5_copyFrom wsX4_copyFrom := goodIn_r _ [21, 22, 23, 24, 25, 20, 26, 27, 28, 29, 30, 31, 32, 33, 34, 47, 48, 49, 50, 51] (by decide +kernel) (by decide +kernel)
set_option maxRecDepth 20000 in
theorem gX5_copyFrom_X4_copyFrom : GoodIn wsX5_copyFrom (wsV RX5 67 RX4 yX4_copyFrom wsX4_copyFrom) := goodIn_app (goodIn_of _ (by decide +kernel)) ggX5_copyFrom_X4_copyFrom
theorem dX5_copyFrom_0 : decode cX5_copyFrom 0 = .ok (.aload_n 1, 1) := by decide +kernel
theorem dX5_copyFrom_1 : decode cX5_copyFrom 1 = .ok (.getfield 9, 3) := by decide +kernel
theorem dX5_copyFrom_4 : decode cX5_copyFrom 4 = .ok (.iconst 0, 1) := by decide +kernel
theorem dX5_copyFrom_5 : decode cX5_copyFrom 5 = .ok (.aload_n 0, 1) := by decide +kernel
theorem dX5_copyFrom_6 : decode cX5_copyFrom 6 = .ok (.getfield 9, 3) := by decide +kernel
theorem dX5_copyFrom_9 : decode cX5_copyFrom 9 = .ok (.iconst 0, 1) := by decide +kernel
theorem dX5_copyFrom_10 : decode cX5_copyFrom 10 = .ok (.sipush 144, 3) := by decide +kernel
theorem dX5_copyFrom_13 : decode cX5_copyFrom 13 = .ok (.invokestatic 61, 3) := by decide +kernel
theorem dX5_copyFrom_16 : decode cX5_copyFrom 16 = .ok (.aload_n 1, 1) := by decide +kernel
theorem dX5_copyFrom_17 : decode cX5_copyFrom 17 = .ok (.getfield 15, 3) := by decide +kernel
theorem dX5_copyFrom_20 : decode cX5_copyFrom 20 = .ok (.iconst 0, 1) := by decide +kernel
theorem dX5_copyFrom_21 : decode cX5_copyFrom 21 = .ok (.aload_n 0, 1) := by decide +kernel
theorem dX5_copyFrom_22 : decode cX5_copyFrom 22 = .ok (.getfield 15, 3) := by decide +kernel
theorem dX5_copyFrom_25 : decode cX5_copyFrom 25 = .ok (.iconst 0, 1) := by decide +kernel
theorem dX5_copyFrom_26 : decode cX5_copyFrom 26 = .ok (.iconst 4, 1) := by decide +kernel
theorem dX5_copyFrom_27 : decode cX5_copyFrom 27 = .ok (.invokestatic 61, 3) := by decide +kernel
theorem dX5_copyFrom_30 : decode cX5_copyFrom 30 = .ok (.aload_n 1, 1) := by decide +kernel
theorem dX5_copyFrom_31 : decode cX5_copyFrom 31 = .ok (.getfield 18, 3) := by decide +kernel
theorem dX5_copyFrom_34 : decode cX5_copyFrom 34 = .ok (.iconst 0, 1) := by decide +kernel
theorem dX5_copyFrom_35 : decode cX5_copyFrom 35 = .ok (.aload_n 0, 1) := by decide +kernel
theorem dX5_copyFrom_36 : decode cX5_copyFrom 36 = .ok (.getfield 18, 3) := by decide +kernel
theorem dX5_copyFrom_39 : decode cX5_copyFrom 39 = .ok (.iconst 0, 1) := by decide +kernel
theorem dX5_copyFrom_40 : decode cX5_copyFrom 40 = .ok (.iconst 4, 1) := by decide +kernel
theorem dX5_copyFrom_41 : decode cX5_copyFrom 41 = .ok (.invokestatic 61, 3) := by decide +kernel
theorem dX5_copyFrom_44 : decode cX5_copyFrom 44 = .ok (.aload_n 0, 1) := by decide +kernel
theorem dX5_copyFrom_45 : decode cX5_copyFrom 45 = .ok (.aload_n 1, 1) := by decide +kernel
theorem dX5_copyFrom_46 : decode cX5_copyFrom 46 = .ok (.getfield 21, 3) := by decide +kernel
theorem dX5_copyFrom_49 : decode cX5_copyFrom 49 = .ok (.putfield 21, 3) := by decide +kernel
theorem dX5_copyFrom_52 : decode cX5_copyFrom 52 = .ok (.aload_n 1, 1) := by decide +kernel
theorem dX5_copyFrom_53 : decode cX5_copyFrom 53 = .ok (.getfield 25, 3) := by decide +kernel
theorem dX5_copyFrom_56 : decode cX5_copyFrom 56 = .ok (.iconst 0, 1) := by decide +kernel
theorem dX5_copyFrom_57 : decode cX5_copyFrom 57 = .ok (.aload_n 0, 1) := by decide +kernel
theorem dX5_copyFrom_58 : decode cX5_copyFrom 58 = .ok (.getfield 25, 3) := by decide +kernel
theorem dX5_copyFrom_61 : decode cX5_copyFrom 61 = .ok (.iconst 0, 1) := by decide +kernel
theorem dX5_copyFrom_62 : decode cX5_copyFrom 62 = .ok (.iconst 4, 1) := by decide +kernel
theorem dX5_copyFrom_63 : decode cX5_copyFrom 63 = .ok (.invokestatic 61, 3) := by decide +kernel
theorem dX5_copyFrom_66 : decode cX5_copyFrom 66 = .ok (.aload_n 0, 1) := by decide +kernel
theorem dX5_copyFrom_67 : decode cX5_copyFrom 67 = .ok (.getfield 33, 3) := by decide +kernel
theorem dX5_copyFrom_70 : decode cX5_copyFrom 70 = .ok (.aload_n 1, 1) := by decide +kernel
theorem dX5_copyFrom_71 : decode cX5_copyFrom 71 = .ok (.getfield 33, 3) := by decide +kernel
theorem dX5_copyFrom_74 : decode cX5_copyFrom 74 = .ok (.invokevirtual 67, 3) := by decide +kernel
theorem dX5_copyFrom_77 : decode cX5_copyFrom 77 = .ok (.aload_n 0, 1) := by decide +kernel
theorem dX5_copyFrom_78 : decode cX5_copyFrom 78 = .ok (.aload_n 1, 1) := by decide +kernel
theorem dX5_copyFrom_79 : decode cX5_copyFrom 79 = .ok (.getfield 37, 3) := by decide +kernel
theorem dX5_copyFrom_82 : decode cX5_copyFrom 82 = .ok (.putfield 37, 3) := by decide +kernel
theorem dX5_copyFrom_85 : decode cX5_copyFrom 85 = .ok (.aload_n 0, 1) := by decide +kernel
theorem dX5_copyFrom_86 : decode cX5_copyFrom 86 = .ok (.aload_n 1, 1) := by decide +kernel
theorem dX5_copyFrom_87 : decode cX5_copyFrom 87 = .ok (.getfield 40, 3) := by decide +kernel
theorem dX5_copyFrom_90 : decode cX5_copyFrom 90 = .ok (.putfield 40, 3) := by decide +kernel
theorem dX5_copyFrom_93 : decode cX5_copyFrom 93 = .ok (.aload_n 0, 1) := by decide +kernel
theorem dX5_copyFrom_94 : decode cX5_copyFrom 94 = .ok (.aload_n 1, 1) := by decide +kernel
theorem dX5_copyFrom_95 : decode cX5_copyFrom 95 = .ok (.getfield 43, 3) := by decide +kernel
theorem dX5_copyFrom_98 : decode cX5_copyFrom 98 = .ok (.putfield 43, 3) := by decide +kernel
theorem dX5_copyFrom_101 : decode cX5_copyFrom 101 = .ok (.aload_n 0, 1) := by decide +kernel
theorem dX5_copyFrom_102 : decode cX5_copyFrom 102 = .ok (.aload_n 1, 1) := by decide +kernel
theorem dX5_copyFrom_103 : decode cX5_copyFrom 103 = .ok (.getfield 46, 3) := by decide +kernel
theorem dX5_copyFrom_106 : decode cX5_copyFrom 106 = .ok (.putfield 46, 3) := by decide +kernel
theorem dX5_copyFrom_109 : decode cX5_copyFrom 109 = .ok (.aload_n 0, 1) := by decide +kernel
theorem dX5_copyFrom_110 : decode cX5_copyFrom 110 = .ok (.aload_n 1, 1) := by decide +kernel
theorem dX5_copyFrom_111 : decode cX5_copyFrom 111 = .ok (.getfield 49, 3) := by decide +kernel
theorem dX5_copyFrom_114 : decode cX5_copyFrom 114 = .ok (.putfield 49, 3) := by decide +kernel
theorem dX5_copyFrom_117 : decode cX5_copyFrom 117 = .ok (.aload_n 0, 1) := by decide +kernel
theorem dX5_copyFrom_118 : decode cX5_copyFrom 118 = .ok (.aload_n 1, 1) := by decide +kernel
theorem dX5_copyFrom_119 : decode cX5_copyFrom 119 = .ok (.getfield 52, 3) := by decide +kernel
theorem dX5_copyFrom_122 : decode cX5_copyFrom 122 = .ok (.putfield 52, 3) := by decide +kernel
theorem dX5_copyFrom_125 : decode cX5_copyFrom 125 = .ok (.return_, 1) := by decide +kernel
theorem dX5_coverWith_0 : decode cX5_coverWith 0 = .ok (.iconst 0, 1) := by decide +kernel
theorem dX5_coverWith_1 : decode cX5_coverWith 1 = .ok (.istore_n 2, 1) := by decide +kernel
theorem dX5_coverWith_2 : decode cX5_coverWith 2 = .ok (.iload_n 2, 1) := by decide +kernel
theorem dX5_coverWith_3 : decode cX5_coverWith 3 = .ok (.sipush 144, 3) := by decide +kernel
theorem dX5_coverWith_6 : decode cX5_coverWith 6 = .ok (.if_icmp .ge 16, 3) := by decide +kernel
theorem dX5_coverWith_9 : decode cX5_coverWith 9 = .ok (.aload_n 0, 1) := by decide +kernel
theorem dX5_coverWith_10 : decode cX5_coverWith 10 = .ok (.getfield 9, 3) := by decide +kernel
theorem dX5_coverWith_13 : decode cX5_coverWith 13 = .ok (.iload_n 2, 1) := by decide +kernel
theorem dX5_coverWith_14 : decode cX5_coverWith 14 = .ok (.iload_n 1, 1) := by decide +kernel
theorem dX5_coverWith_15 : decode cX5_coverWith 15 = .ok (.iastore, 1) := by decide +kernel
theorem dX5_coverWith_16 : decode cX5_coverWith 16 = .ok (.iinc 2 1, 3) := by decide +kernel
theorem dX5_coverWith_19 : decode cX5_coverWith 19 = .ok (.goto (-17), 3) := by decide +kernel
theorem dX5_coverWith_22 : decode cX5_coverWith 22 = .ok (.return_, 1) := by decide +kernel
theorem dX5_allGrains_0 : decode cX5_allGrains 0 = .ok (.iconst 0, 1) := by decide +kernel
theorem dX5_allGrains_1 : decode cX5_allGrains 1 = .ok (.istore_n 1, 1) := by decide +kernel
theorem dX5_allGrains_2 : decode cX5_allGrains 2 = .ok (.iconst 0, 1) := by decide +kernel
theorem dX5_allGrains_3 : decode cX5_allGrains 3 = .ok (.istore_n 2, 1) := by decide +kernel
theorem dX5_allGrains_4 : decode cX5_allGrains 4 = .ok (.iload_n 2, 1) := by decide +kernel
theorem dX5_allGrains_5 : decode cX5_allGrains 5 = .ok (.sipush 144, 3) := by decide +kernel
theorem dX5_allGrains_8 : decode cX5_allGrains 8 = .ok (.if_icmp .ge 18, 3) := by decide +kernel
theorem dX5_allGrains_11 : decode cX5_allGrains 11 = .ok (.iload_n 1, 1) := by decide +kernel
theorem dX5_allGrains_12 : decode cX5_allGrains 12 = .ok (.aload_n 0, 1) := by decide +kernel
theorem dX5_allGrains_13 : decode cX5_allGrains 13 = .ok (.getfield 9, 3) := by decide +kernel
theorem dX5_allGrains_16 : decode cX5_allGrains 16 = .ok (.iload_n 2, 1) := by decide +kernel
theorem dX5_allGrains_17 : decode cX5_allGrains 17 = .ok (.iaload, 1) := by decide +kernel
theorem dX5_allGrains_18 : decode cX5_allGrains 18 = .ok (.iadd, 1) := by decide +kernel
theorem dX5_allGrains_19 : decode cX5_allGrains 19 = .ok (.istore_n 1, 1) := by decide +kernel
theorem dX5_allGrains_20 : decode cX5_allGrains 20 = .ok (.iinc 2 1, 3) := by decide +kernel
theorem dX5_allGrains_23 : decode cX5_allGrains 23 = .ok (.goto (-19), 3) := by decide +kernel
theorem dX5_allGrains_26 : decode cX5_allGrains 26 = .ok (.iload_n 1, 1) := by decide +kernel
theorem dX5_allGrains_27 : decode cX5_allGrains 27 = .ok (.ireturn, 1) := by decide +kernel
theorem dX5_mostGrains_0 : decode cX5_mostGrains 0 = .ok (.iconst 0, 1) := by decide +kernel
theorem dX5_mostGrains_1 : decode cX5_mostGrains 1 = .ok (.istore_n 1, 1) := by decide +kernel
theorem dX5_mostGrains_2 : decode cX5_mostGrains 2 = .ok (.iconst 0, 1) := by decide +kernel
theorem dX5_mostGrains_3 : decode cX5_mostGrains 3 = .ok (.istore_n 2, 1) := by decide +kernel
theorem dX5_mostGrains_4 : decode cX5_mostGrains 4 = .ok (.iload_n 2, 1) := by decide +kernel
theorem dX5_mostGrains_5 : decode cX5_mostGrains 5 = .ok (.sipush 144, 3) := by decide +kernel
theorem dX5_mostGrains_8 : decode cX5_mostGrains 8 = .ok (.if_icmp .ge 20, 3) := by decide +kernel
theorem dX5_mostGrains_11 : decode cX5_mostGrains 11 = .ok (.iload_n 1, 1) := by decide +kernel
theorem dX5_mostGrains_12 : decode cX5_mostGrains 12 = .ok (.aload_n 0, 1) := by decide +kernel
theorem dX5_mostGrains_13 : decode cX5_mostGrains 13 = .ok (.getfield 9, 3) := by decide +kernel
theorem dX5_mostGrains_16 : decode cX5_mostGrains 16 = .ok (.iload_n 2, 1) := by decide +kernel
theorem dX5_mostGrains_17 : decode cX5_mostGrains 17 = .ok (.iaload, 1) := by decide +kernel
theorem dX5_mostGrains_18 : decode cX5_mostGrains 18 = .ok (.invokestatic 71, 3) := by decide +kernel
theorem dX5_mostGrains_21 : decode cX5_mostGrains 21 = .ok (.istore_n 1, 1) := by decide +kernel
theorem dX5_mostGrains_22 : decode cX5_mostGrains 22 = .ok (.iinc 2 1, 3) := by decide +kernel
theorem dX5_mostGrains_25 : decode cX5_mostGrains 25 = .ok (.goto (-21), 3) := by decide +kernel
theorem dX5_mostGrains_28 : decode cX5_mostGrains 28 = .ok (.iload_n 1, 1) := by decide +kernel
theorem dX5_mostGrains_29 : decode cX5_mostGrains 29 = .ok (.ireturn, 1) := by decide +kernel
theorem dX5_clampOn_0 : decode cX5_clampOn 0 = .ok (.iconst 0, 1) := by decide +kernel
theorem dX5_clampOn_1 : decode cX5_clampOn 1 = .ok (.istore_n 3, 1) := by decide +kernel
theorem dX5_clampOn_2 : decode cX5_clampOn 2 = .ok (.iload_n 3, 1) := by decide +kernel
theorem dX5_clampOn_3 : decode cX5_clampOn 3 = .ok (.aload_n 0, 1) := by decide +kernel
theorem dX5_clampOn_4 : decode cX5_clampOn 4 = .ok (.getfield 21, 3) := by decide +kernel
theorem dX5_clampOn_7 : decode cX5_clampOn 7 = .ok (.if_icmp .ge 31, 3) := by decide +kernel
theorem dX5_clampOn_10 : decode cX5_clampOn 10 = .ok (.aload_n 0, 1) := by decide +kernel
theorem dX5_clampOn_11 : decode cX5_clampOn 11 = .ok (.getfield 15, 3) := by decide +kernel
theorem dX5_clampOn_14 : decode cX5_clampOn 14 = .ok (.iload_n 3, 1) := by decide +kernel
theorem dX5_clampOn_15 : decode cX5_clampOn 15 = .ok (.iaload, 1) := by decide +kernel
theorem dX5_clampOn_16 : decode cX5_clampOn 16 = .ok (.iload_n 1, 1) := by decide +kernel
theorem dX5_clampOn_17 : decode cX5_clampOn 17 = .ok (.if_icmp .ne 15, 3) := by decide +kernel
theorem dX5_clampOn_20 : decode cX5_clampOn 20 = .ok (.aload_n 0, 1) := by decide +kernel
theorem dX5_clampOn_21 : decode cX5_clampOn 21 = .ok (.getfield 18, 3) := by decide +kernel
theorem dX5_clampOn_24 : decode cX5_clampOn 24 = .ok (.iload_n 3, 1) := by decide +kernel
theorem dX5_clampOn_25 : decode cX5_clampOn 25 = .ok (.iaload, 1) := by decide +kernel
theorem dX5_clampOn_26 : decode cX5_clampOn 26 = .ok (.iload_n 2, 1) := by decide +kernel
theorem dX5_clampOn_27 : decode cX5_clampOn 27 = .ok (.if_icmp .ne 5, 3) := by decide +kernel
theorem dX5_clampOn_30 : decode cX5_clampOn 30 = .ok (.iload_n 3, 1) := by decide +kernel
theorem dX5_clampOn_31 : decode cX5_clampOn 31 = .ok (.ireturn, 1) := by decide +kernel
theorem dX5_clampOn_32 : decode cX5_clampOn 32 = .ok (.iinc 3 1, 3) := by decide +kernel
theorem dX5_clampOn_35 : decode cX5_clampOn 35 = .ok (.goto (-33), 3) := by decide +kernel
theorem dX5_clampOn_38 : decode cX5_clampOn 38 = .ok (.iconst (-1), 1) := by decide +kernel
theorem dX5_clampOn_39 : decode cX5_clampOn 39 = .ok (.ireturn, 1) := by decide +kernel
theorem dX5_dropClamp_0 : decode cX5_dropClamp 0 = .ok (.iload_n 1, 1) := by decide +kernel
theorem dX5_dropClamp_1 : decode cX5_dropClamp 1 = .ok (.ifCond .lt 11, 3) := by decide +kernel
theorem dX5_dropClamp_4 : decode cX5_dropClamp 4 = .ok (.iload_n 1, 1) := by decide +kernel
theorem dX5_dropClamp_5 : decode cX5_dropClamp 5 = .ok (.aload_n 0, 1) := by decide +kernel
theorem dX5_dropClamp_6 : decode cX5_dropClamp 6 = .ok (.getfield 21, 3) := by decide +kernel
theorem dX5_dropClamp_9 : decode cX5_dropClamp 9 = .ok (.if_icmp .lt 4, 3) := by decide +kernel
theorem dX5_dropClamp_12 : decode cX5_dropClamp 12 = .ok (.return_, 1) := by decide +kernel
theorem dX5_dropClamp_13 : decode cX5_dropClamp 13 = .ok (.iload_n 1, 1) := by decide +kernel
theorem dX5_dropClamp_14 : decode cX5_dropClamp 14 = .ok (.istore_n 2, 1) := by decide +kernel
theorem dX5_dropClamp_15 : decode cX5_dropClamp 15 = .ok (.iload_n 2, 1) := by decide +kernel
theorem dX5_dropClamp_16 : decode cX5_dropClamp 16 = .ok (.aload_n 0, 1) := by decide +kernel
theorem dX5_dropClamp_17 : decode cX5_dropClamp 17 = .ok (.getfield 21, 3) := by decide +kernel
theorem dX5_dropClamp_20 : decode cX5_dropClamp 20 = .ok (.iconst 1, 1) := by decide +kernel
theorem dX5_dropClamp_21 : decode cX5_dropClamp 21 = .ok (.isub, 1) := by decide +kernel
theorem dX5_dropClamp_22 : decode cX5_dropClamp 22 = .ok (.if_icmp .ge 37, 3) := by decide +kernel
theorem dX5_dropClamp_25 : decode cX5_dropClamp 25 = .ok (.aload_n 0, 1) := by decide +kernel
theorem dX5_dropClamp_26 : decode cX5_dropClamp 26 = .ok (.getfield 15, 3) := by decide +kernel
theorem dX5_dropClamp_29 : decode cX5_dropClamp 29 = .ok (.iload_n 2, 1) := by decide +kernel
theorem dX5_dropClamp_30 : decode cX5_dropClamp 30 = .ok (.aload_n 0, 1) := by decide +kernel
theorem dX5_dropClamp_31 : decode cX5_dropClamp 31 = .ok (.getfield 15, 3) := by decide +kernel
theorem dX5_dropClamp_34 : decode cX5_dropClamp 34 = .ok (.iload_n 2, 1) := by decide +kernel
theorem dX5_dropClamp_35 : decode cX5_dropClamp 35 = .ok (.iconst 1, 1) := by decide +kernel
theorem dX5_dropClamp_36 : decode cX5_dropClamp 36 = .ok (.iadd, 1) := by decide +kernel
theorem dX5_dropClamp_37 : decode cX5_dropClamp 37 = .ok (.iaload, 1) := by decide +kernel
theorem dX5_dropClamp_38 : decode cX5_dropClamp 38 = .ok (.iastore, 1) := by decide +kernel
theorem dX5_dropClamp_39 : decode cX5_dropClamp 39 = .ok (.aload_n 0, 1) := by decide +kernel
theorem dX5_dropClamp_40 : decode cX5_dropClamp 40 = .ok (.getfield 18, 3) := by decide +kernel
theorem dX5_dropClamp_43 : decode cX5_dropClamp 43 = .ok (.iload_n 2, 1) := by decide +kernel
theorem dX5_dropClamp_44 : decode cX5_dropClamp 44 = .ok (.aload_n 0, 1) := by decide +kernel
theorem dX5_dropClamp_45 : decode cX5_dropClamp 45 = .ok (.getfield 18, 3) := by decide +kernel
theorem dX5_dropClamp_48 : decode cX5_dropClamp 48 = .ok (.iload_n 2, 1) := by decide +kernel
theorem dX5_dropClamp_49 : decode cX5_dropClamp 49 = .ok (.iconst 1, 1) := by decide +kernel
theorem dX5_dropClamp_50 : decode cX5_dropClamp 50 = .ok (.iadd, 1) := by decide +kernel
theorem dX5_dropClamp_51 : decode cX5_dropClamp 51 = .ok (.iaload, 1) := by decide +kernel
theorem dX5_dropClamp_52 : decode cX5_dropClamp 52 = .ok (.iastore, 1) := by decide +kernel
theorem dX5_dropClamp_53 : decode cX5_dropClamp 53 = .ok (.iinc 2 1, 3) := by decide +kernel
theorem dX5_dropClamp_56 : decode cX5_dropClamp 56 = .ok (.goto (-41), 3) := by decide +kernel
theorem dX5_dropClamp_59 : decode cX5_dropClamp 59 = .ok (.aload_n 0, 1) := by decide +kernel
theorem dX5_dropClamp_60 : decode cX5_dropClamp 60 = .ok (.dup, 1) := by decide +kernel
theorem dX5_dropClamp_61 : decode cX5_dropClamp 61 = .ok (.getfield 21, 3) := by decide +kernel
theorem dX5_dropClamp_64 : decode cX5_dropClamp 64 = .ok (.iconst 1, 1) := by decide +kernel
theorem dX5_dropClamp_65 : decode cX5_dropClamp 65 = .ok (.isub, 1) := by decide +kernel
theorem dX5_dropClamp_66 : decode cX5_dropClamp 66 = .ok (.putfield 21, 3) := by decide +kernel
theorem dX5_dropClamp_69 : decode cX5_dropClamp 69 = .ok (.return_, 1) := by decide +kernel
set_option maxRecDepth 20000 in
theorem ggX6_init_X4_init : GoodIn wsX6_init wsX4_init := goodIn_r _ [14, 15, 2, 3, 16, 17, 18, 19, 20, 21, 22, 23, 24, 25, 30, 31, 32, 33, 34] (by decide +kernel) (by decide +kernel)
set_option maxRecDepth 20000 in
theorem gX6_init_X4_init : GoodIn wsX6_init (wsX4_init) := ggX6_init_X4_init
end
section
theorem hiX4_append_X4 : ∀ w ∈ wsX40, w ∈ wsX4_append := by decide +kernel
set_option maxHeartbeats 4000000 in
set_option maxRecDepth 100000 in
/-- one bowing more -/
theorem kX4_append (l : Launch) (D : va_G) (z : Nat × Nat × Nat) (h0 : Nat) (h1 : Nat) (h2 : Nat) (h3 : Nat) (lim : Nat) (ps : Nat) (x : Nat) (y : Nat) (t : Nat) (fs : Nat → Nat) (fa : Nat → Nat) (fk : Nat → Nat) (hl : ps < lim) (hlim : lim < 1073741824) : CM l yX4_append wsX4_append ({ frames := 0, cells := 0, slots := 0, locals := 0 } : Room) D z [.ref h0, .int (nI x), .int (nI y), .int (nI t)] [(h0, .inr (4, [.int (nI lim), .ref h1, .ref h2, .ref h3, .int (nI ps)])), (h1, .inl ((TY D)[0].1, lim, .inl (nf fs))), (h2, .inl ((TY D)[0].1, lim, .inl (nf fa))), (h3, .inl ((TY D)[0].1, lim, .inl (nf fk)))] (fun r w => r = none ∧ w = [(h0, .inr (4, [.int (nI lim), .ref h1, .ref h2, .ref h3, .int (nI (ps + 1))])), (h1, .inl ((TY D)[0].1, lim, .inl (nf (upf fs ps x)))), (h2, .inl ((TY D)[0].1, lim, .inl (nf (upf fa ps y)))), (h3, .inl ((TY D)[0].1, lim, .inl (nf (upf fk ps t))))]) 0 0 := by
  refine CM_void (own := RX4) (cc := cX4_append) (maxL := 4) (L0 := [(0, .ref h0), (1, .int (nI x)), (2, .int (nI y)), (3, .int (nI t))]) (by decide) rfl rfl (Nat.le_of_ble_eq_true rfl) rfl (fun X O E => ?_)
  refine g_aload_n O dX4_append_0 0 rfl rfl ?_
  refine g_get O hiX4_append_X4 0 rfl rfl 4 (by decide) (by decide +kernel) rfl dX4_append_1 ?_
  refine g_aload_n O dX4_append_4 0 rfl rfl ?_
  refine g_get O hiX4_append_X4 0 rfl rfl 0 (by decide) (by decide +kernel) rfl dX4_append_5 ?_
  refine g_icmp_geN (tgt := 51) O (by omega) (by omega) dX4_append_8 (by decide) (fun c_1 => (by exfalso; omega)) (fun c_1 => ?_)
  refine g_aload_n O dX4_append_11 0 rfl rfl ?_
  refine g_get O hiX4_append_X4 0 rfl rfl 1 (by decide) (by decide +kernel) rfl dX4_append_12 ?_
  refine g_aload_n O dX4_append_15 0 rfl rfl ?_
  refine g_get O hiX4_append_X4 0 rfl rfl 4 (by decide) (by decide +kernel) rfl dX4_append_16 ?_
  refine g_iload_n O dX4_append_19 1 rfl rfl ?_
  refine g_iastN (f' := (nf (upf fs ps x))) (ws' := [(h0, .inr (4, [.int (nI lim), .ref h1, .ref h2, .ref h3, .int (nI ps)])), (h1, .inl ((TY D)[0].1, lim, .inl (nf (upf fs ps x)))), (h2, .inl ((TY D)[0].1, lim, .inl (nf fa))), (h3, .inl ((TY D)[0].1, lim, .inl (nf fk)))]) O 1 rfl (by omega) (by omega) dX4_append_20 (nf_upd _ _ _) rfl ?_
  refine g_aload_n O dX4_append_21 0 rfl rfl ?_
  refine g_get O hiX4_append_X4 0 rfl rfl 2 (by decide) (by decide +kernel) rfl dX4_append_22 ?_
  refine g_aload_n O dX4_append_25 0 rfl rfl ?_
  refine g_get O hiX4_append_X4 0 rfl rfl 4 (by decide) (by decide +kernel) rfl dX4_append_26 ?_
  refine g_iload_n O dX4_append_29 2 rfl rfl ?_
  refine g_iastN (f' := (nf (upf fa ps y))) (ws' := [(h0, .inr (4, [.int (nI lim), .ref h1, .ref h2, .ref h3, .int (nI ps)])), (h1, .inl ((TY D)[0].1, lim, .inl (nf (upf fs ps x)))), (h2, .inl ((TY D)[0].1, lim, .inl (nf (upf fa ps y)))), (h3, .inl ((TY D)[0].1, lim, .inl (nf fk)))]) O 2 rfl (by omega) (by omega) dX4_append_30 (nf_upd _ _ _) rfl ?_
  refine g_aload_n O dX4_append_31 0 rfl rfl ?_
  refine g_get O hiX4_append_X4 0 rfl rfl 3 (by decide) (by decide +kernel) rfl dX4_append_32 ?_
  refine g_aload_n O dX4_append_35 0 rfl rfl ?_
  refine g_get O hiX4_append_X4 0 rfl rfl 4 (by decide) (by decide +kernel) rfl dX4_append_36 ?_
  refine g_iload_n O dX4_append_39 3 rfl rfl ?_
  refine g_iastN (f' := (nf (upf fk ps t))) (ws' := [(h0, .inr (4, [.int (nI lim), .ref h1, .ref h2, .ref h3, .int (nI ps)])), (h1, .inl ((TY D)[0].1, lim, .inl (nf (upf fs ps x)))), (h2, .inl ((TY D)[0].1, lim, .inl (nf (upf fa ps y)))), (h3, .inl ((TY D)[0].1, lim, .inl (nf (upf fk ps t))))]) O 3 rfl (by omega) (by omega) dX4_append_40 (nf_upd _ _ _) rfl ?_
  refine g_aload_n O dX4_append_41 0 rfl rfl ?_
  refine g_dup O dX4_append_42 rfl ?_
  refine g_get O hiX4_append_X4 0 rfl rfl 4 (by decide) (by decide +kernel) rfl dX4_append_43 ?_
  refine g_iconst (x := (nI 1)) O dX4_append_46 (by decide +kernel) ?_
  refine g_iaddN O dX4_append_47 ?_
  refine g_put (ws' := [(h0, .inr (4, [.int (nI lim), .ref h1, .ref h2, .ref h3, .int (nI (ps + 1))])), (h1, .inl ((TY D)[0].1, lim, .inl (nf (upf fs ps x)))), (h2, .inl ((TY D)[0].1, lim, .inl (nf (upf fa ps y)))), (h3, .inl ((TY D)[0].1, lim, .inl (nf (upf fk ps t))))]) O hiX4_append_X4 tyX4 tyX4_ok nmX4 0 rfl rfl 4 (by decide) (by decide +kernel) rfl (tyX4_ok 4 (by decide)) rfl rfl (Nat.le_of_ble_eq_true rfl) dX4_append_48 rfl ?_
  exact E 51 _ _ dX4_append_51 ⟨rfl, rfl⟩

theorem hiX4_appendAll_X4 : ∀ w ∈ wsX40, w ∈ wsX4_appendAll := by decide +kernel
set_option maxHeartbeats 4000000 in
set_option maxRecDepth 100000 in
/-- all bowings of another piece -/
theorem kX4_appendAll (l : Launch) (D : va_G) (z : Nat × Nat × Nat) (h0 : Nat) (h1 : Nat) (h2 : Nat) (h3 : Nat) (o0 : Nat) (o1 : Nat) (o2 : Nat) (o3 : Nat) (lim : Nat) (ps : Nat) (lio : Nat) (po : Nat) (fs : Nat → Nat) (fa : Nat → Nat) (fk : Nat → Nat) (os : Nat → Nat) (oa : Nat → Nat) (ok : Nat → Nat) (hl : ps + po ≤ lim) (ho : po ≤ lio) (hlim : lim < 1073741824) (hlio : lio < 1073741824) : CM l yX4_appendAll wsX4_appendAll ({ frames := 1, cells := 0, slots := 0, locals := 23 } : Room) D z [.ref h0, .ref o0] [(h0, .inr (4, [.int (nI lim), .ref h1, .ref h2, .ref h3, .int (nI ps)])), (h1, .inl ((TY D)[0].1, lim, .inl (nf fs))), (h2, .inl ((TY D)[0].1, lim, .inl (nf fa))), (h3, .inl ((TY D)[0].1, lim, .inl (nf fk))), (o0, .inr (4, [.int (nI lio), .ref o1, .ref o2, .ref o3, .int (nI po)])), (o1, .inl ((TY D)[0].1, lio, .inl (nf os))), (o2, .inl ((TY D)[0].1, lio, .inl (nf oa))), (o3, .inl ((TY D)[0].1, lio, .inl (nf ok)))] (fun r w => r = none ∧ w = [(h0, .inr (4, [.int (nI lim), .ref h1, .ref h2, .ref h3, .int (nI (ps + po))])), (h1, .inl ((TY D)[0].1, lim, .inl (nf (apf fs os ps po)))), (h2, .inl ((TY D)[0].1, lim, .inl (nf (apf fa oa ps po)))), (h3, .inl ((TY D)[0].1, lim, .inl (nf (apf fk ok ps po)))), (o0, .inr (4, [.int (nI lio), .ref o1, .ref o2, .ref o3, .int (nI po)])), (o1, .inl ((TY D)[0].1, lio, .inl (nf os))), (o2, .inl ((TY D)[0].1, lio, .inl (nf oa))), (o3, .inl ((TY D)[0].1, lio, .inl (nf ok)))]) 0 0 := by
  refine CM_void (own := RX4) (cc := cX4_appendAll) (maxL := 3) (L0 := [(0, .ref h0), (1, .ref o0)]) (by decide) rfl rfl (Nat.le_of_ble_eq_true rfl) rfl (fun X O E => ?_)
  refine g_iconst (x := (nI 0)) O dX4_appendAll_0 (by decide +kernel) ?_
  refine g_istore_n (L' := [(0, .ref h0), (1, .ref o0), (2, .int (nI 0))]) O dX4_appendAll_1 rfl (by decide) [1, 2, 0] rfl ?_
  have J2 : ∀ (n_ : Nat), ∀ (i_ : Nat) (Fs : Nat → Nat) (Fa : Nat → Nat) (Fk : Nat → Nat) (hi_ : i_ ≤ po) (hF : Fs = apf fs os ps i_ ∧ Fa = apf fa oa ps i_ ∧ Fk = apf fk ok ps i_), po - i_ < n_ → G X 0 0 2 [(0, .ref h0), (1, .ref o0), (2, .int (nI i_))] [] [(h0, .inr (4, [.int (nI lim), .ref h1, .ref h2, .ref h3, .int (nI (ps + i_))])), (h1, .inl ((TY D)[0].1, lim, .inl (nf Fs))), (h2, .inl ((TY D)[0].1, lim, .inl (nf Fa))), (h3, .inl ((TY D)[0].1, lim, .inl (nf Fk))), (o0, .inr (4, [.int (nI lio), .ref o1, .ref o2, .ref o3, .int (nI po)])), (o1, .inl ((TY D)[0].1, lio, .inl (nf os))), (o2, .inl ((TY D)[0].1, lio, .inl (nf oa))), (o3, .inl ((TY D)[0].1, lio, .inl (nf ok)))] := by
    intro n_
    induction n_ with
    | zero => intro i_ Fs Fa Fk hi_ hF hm_; exact absurd hm_ (Nat.not_lt_zero _)
    | succ n_ ih_ =>
      intro i_ Fs Fa Fk hi_ hF hm_
      refine g_iload_n O dX4_appendAll_2 2 rfl rfl ?_
      refine g_aload_n O dX4_appendAll_3 1 rfl rfl ?_
      refine g_get O hiX4_appendAll_X4 4 rfl rfl 4 (by decide) (by decide +kernel) rfl dX4_appendAll_4 ?_
      refine g_icmp_geN (tgt := 38) O (by omega) (by omega) dX4_appendAll_7 (by decide) (fun c_1 => ?_) (fun c_1 => ?_)
      ·
        obtain ⟨rfl, rfl, rfl⟩ := hF
        obtain rfl : po = i_ := by omega
        exact E 38 _ _ dX4_appendAll_38 ⟨rfl, rfl⟩
      ·
        refine g_aload_n O dX4_appendAll_10 0 rfl rfl ?_
        refine g_aload_n O dX4_appendAll_11 1 rfl rfl ?_
        refine g_get O hiX4_appendAll_X4 4 rfl rfl 1 (by decide) (by decide +kernel) rfl dX4_appendAll_12 ?_
        refine g_iload_n O dX4_appendAll_15 2 rfl rfl ?_
        refine g_ialdN O 5 rfl (by omega) (by omega) dX4_appendAll_16 ?_
        refine g_aload_n O dX4_appendAll_17 1 rfl rfl ?_
        refine g_get O hiX4_appendAll_X4 4 rfl rfl 2 (by decide) (by decide +kernel) rfl dX4_appendAll_18 ?_
        refine g_iload_n O dX4_appendAll_21 2 rfl rfl ?_
        refine g_ialdN O 6 rfl (by omega) (by omega) dX4_appendAll_22 ?_
        refine g_aload_n O dX4_appendAll_23 1 rfl rfl ?_
        refine g_get O hiX4_appendAll_X4 4 rfl rfl 3 (by decide) (by decide +kernel) rfl dX4_appendAll_24 ?_
        refine g_iload_n O dX4_appendAll_27 2 rfl rfl ?_
        refine g_ialdN O 7 rfl (by omega) (by omega) dX4_appendAll_28 ?_
        refine g_callV (As := [.int (nI (os i_)), .int (nI (oa i_)), .int (nI (ok i_))]) (wr := [(o0, .inr (4, [.int (nI lio), .ref o1, .ref o2, .ref o3, .int (nI po)])), (o1, .inl ((TY D)[0].1, lio, .inl (nf os))), (o2, .inl ((TY D)[0].1, lio, .inl (nf oa))), (o3, .inl ((TY D)[0].1, lio, .inl (nf ok)))]) O (kX4_append l D z h0 h1 h2 h3 lim (ps + i_) (os i_) (oa i_) (ok i_) Fs Fa Fk (by first | assumption | omega) (by first | assumption | omega)) gX4_appendAll_X4_append rfl rfl rfl 3 (by decide +kernel) (by decide) (by decide) (q0 := 0) rfl rfl rfl [0, 1, 2, 3] [4, 5, 6, 7] rfl (by decide) rfl (by decide) (by decide) rfl rfl (Nat.le_of_ble_eq_true rfl) dX4_appendAll_29 (fun r_2 w_3 hp => ?_)
        obtain ⟨rfl, rfl⟩ := hp
        refine g_eq (st' := []) (ws' := [(o0, .inr (4, [.int (nI lio), .ref o1, .ref o2, .ref o3, .int (nI po)])), (o1, .inl ((TY D)[0].1, lio, .inl (nf os))), (o2, .inl ((TY D)[0].1, lio, .inl (nf oa))), (o3, .inl ((TY D)[0].1, lio, .inl (nf ok))), (h0, .inr (4, [.int (nI lim), .ref h1, .ref h2, .ref h3, .int (nI ((ps + i_) + 1))])), (h1, .inl ((TY D)[0].1, lim, .inl (nf (upf Fs (ps + i_) (os i_))))), (h2, .inl ((TY D)[0].1, lim, .inl (nf (upf Fa (ps + i_) (oa i_))))), (h3, .inl ((TY D)[0].1, lim, .inl (nf (upf Fk (ps + i_) (ok i_)))))]) rfl rfl rfl ?_
        refine g_iincN (L' := [(0, .ref h0), (1, .ref o0), (2, .int (nI (i_ + 1)))]) O dX4_appendAll_32 2 rfl (by decide) [1, 2, 0] rfl ?_
        refine g_goto (tgt := 2) O dX4_appendAll_35 (by decide) ?_
        refine g_perm (ws' := [(h0, .inr (4, [.int (nI lim), .ref h1, .ref h2, .ref h3, .int (nI ((ps + i_) + 1))])), (h1, .inl ((TY D)[0].1, lim, .inl (nf (upf Fs (ps + i_) (os i_))))), (h2, .inl ((TY D)[0].1, lim, .inl (nf (upf Fa (ps + i_) (oa i_))))), (h3, .inl ((TY D)[0].1, lim, .inl (nf (upf Fk (ps + i_) (ok i_))))), (o0, .inr (4, [.int (nI lio), .ref o1, .ref o2, .ref o3, .int (nI po)])), (o1, .inl ((TY D)[0].1, lio, .inl (nf os))), (o2, .inl ((TY D)[0].1, lio, .inl (nf oa))), (o3, .inl ((TY D)[0].1, lio, .inl (nf ok)))]) [4, 5, 6, 7, 0, 1, 2, 3] rfl (by decide) ?_
        exact ih_ _ _ _ _ (by first | assumption | omega | rfl) (by rw [hF.1, hF.2.1, hF.2.2]; exact ⟨apf_s _ _ _ _, apf_s _ _ _ _, apf_s _ _ _ _⟩) (by omega)
  exact J2 _ 0 _ _ _ (Nat.zero_le _) (⟨(apf_0 _ _ _).symm, (apf_0 _ _ _).symm, (apf_0 _ _ _).symm⟩) (Nat.lt_succ_self _)

theorem hiX4_copyFrom_X4 : ∀ w ∈ wsX40, w ∈ wsX4_copyFrom := by decide +kernel
set_option maxHeartbeats 4000000 in
set_option maxRecDepth 100000 in
/-- a piece like another -/
theorem kX4_copyFrom (l : Launch) (D : va_G) (z : Nat × Nat × Nat) (h0 : Nat) (h1 : Nat) (h2 : Nat) (h3 : Nat) (o0 : Nat) (o1 : Nat) (o2 : Nat) (o3 : Nat) (lim : Nat) (ps : Nat) (lio : Nat) (po : Nat) (fs : Nat → Nat) (fa : Nat → Nat) (fk : Nat → Nat) (os : Nat → Nat) (oa : Nat → Nat) (ok : Nat → Nat) (hl : po ≤ lim) (ho : po ≤ lio) (hlim : lim < 1073741824) (hlio : lio < 1073741824) : CM l yX4_copyFrom wsX4_copyFrom ({ frames := 2, cells := 0, slots := 0, locals := 45 } : Room) D z [.ref h0, .ref o0] [(h0, .inr (4, [.int (nI lim), .ref h1, .ref h2, .ref h3, .int (nI ps)])), (h1, .inl ((TY D)[0].1, lim, .inl (nf fs))), (h2, .inl ((TY D)[0].1, lim, .inl (nf fa))), (h3, .inl ((TY D)[0].1, lim, .inl (nf fk))), (o0, .inr (4, [.int (nI lio), .ref o1, .ref o2, .ref o3, .int (nI po)])), (o1, .inl ((TY D)[0].1, lio, .inl (nf os))), (o2, .inl ((TY D)[0].1, lio, .inl (nf oa))), (o3, .inl ((TY D)[0].1, lio, .inl (nf ok)))] (fun r w => r = none ∧ w = [(h0, .inr (4, [.int (nI lim), .ref h1, .ref h2, .ref h3, .int (nI po)])), (h1, .inl ((TY D)[0].1, lim, .inl (nf (apf fs os 0 po)))), (h2, .inl ((TY D)[0].1, lim, .inl (nf (apf fa oa 0 po)))), (h3, .inl ((TY D)[0].1, lim, .inl (nf (apf fk ok 0 po)))), (o0, .inr (4, [.int (nI lio), .ref o1, .ref o2, .ref o3, .int (nI po)])), (o1, .inl ((TY D)[0].1, lio, .inl (nf os))), (o2, .inl ((TY D)[0].1, lio, .inl (nf oa))), (o3, .inl ((TY D)[0].1, lio, .inl (nf ok)))]) 0 0 := by
  refine CM_void (own := RX4) (cc := cX4_copyFrom) (maxL := 2) (L0 := [(0, .ref h0), (1, .ref o0)]) (by decide) rfl rfl (Nat.le_of_ble_eq_true rfl) rfl (fun X O E => ?_)
  refine g_aload_n O dX4_copyFrom_0 0 rfl rfl ?_
  refine g_iconst (x := (nI 0)) O dX4_copyFrom_1 (by decide +kernel) ?_
  refine g_put (ws' := [(h0, .inr (4, [.int (nI lim), .ref h1, .ref h2, .ref h3, .int (nI 0)])), (h1, .inl ((TY D)[0].1, lim, .inl (nf fs))), (h2, .inl ((TY D)[0].1, lim, .inl (nf fa))), (h3, .inl ((TY D)[0].1, lim, .inl (nf fk))), (o0, .inr (4, [.int (nI lio), .ref o1, .ref o2, .ref o3, .int (nI po)])), (o1, .inl ((TY D)[0].1, lio, .inl (nf os))), (o2, .inl ((TY D)[0].1, lio, .inl (nf oa))), (o3, .inl ((TY D)[0].1, lio, .inl (nf ok)))]) O hiX4_copyFrom_X4 tyX4 tyX4_ok nmX4 0 rfl rfl 4 (by decide) (by decide +kernel) rfl (tyX4_ok 4 (by decide)) rfl rfl (Nat.le_of_ble_eq_true rfl) dX4_copyFrom_2 rfl ?_
  refine g_aload_n O dX4_copyFrom_5 0 rfl rfl ?_
  refine g_aload_n O dX4_copyFrom_6 1 rfl rfl ?_
  refine g_callV (As := [.ref o0]) (wr := []) O (kX4_appendAll l D z h0 h1 h2 h3 o0 o1 o2 o3 lim 0 lio po fs fa fk os oa ok (by first | assumption | omega) (by first | assumption | omega) (by first | assumption | omega) (by first | assumption | omega)) gX4_copyFrom_X4_appendAll rfl rfl rfl 1 (by decide +kernel) (by decide) (by decide) (q0 := 0) rfl rfl rfl [0, 1, 2, 3, 4, 5, 6, 7] [] rfl (by decide) rfl (by decide) (by decide) rfl rfl (Nat.le_of_ble_eq_true rfl) dX4_copyFrom_7 (fun r_1 w_2 hp => ?_)
  obtain ⟨rfl, rfl⟩ := hp
  refine g_eq (st' := []) (ws' := [(h0, .inr (4, [.int (nI lim), .ref h1, .ref h2, .ref h3, .int (nI (0 + po))])), (h1, .inl ((TY D)[0].1, lim, .inl (nf (apf fs os 0 po)))), (h2, .inl ((TY D)[0].1, lim, .inl (nf (apf fa oa 0 po)))), (h3, .inl ((TY D)[0].1, lim, .inl (nf (apf fk ok 0 po)))), (o0, .inr (4, [.int (nI lio), .ref o1, .ref o2, .ref o3, .int (nI po)])), (o1, .inl ((TY D)[0].1, lio, .inl (nf os))), (o2, .inl ((TY D)[0].1, lio, .inl (nf oa))), (o3, .inl ((TY D)[0].1, lio, .inl (nf ok)))]) rfl rfl rfl ?_
  exact E 10 _ _ dX4_copyFrom_10 (by rw [Nat.zero_add]; exact ⟨rfl, rfl⟩)

theorem hiX4_dropFirst_X4 : ∀ w ∈ wsX40, w ∈ wsX4_dropFirst := by decide +kernel
set_option maxHeartbeats 4000000 in
set_option maxRecDepth 100000 in
/-- the first bowings go -/
theorem kX4_dropFirst (l : Launch) (D : va_G) (z : Nat × Nat × Nat) (h0 : Nat) (h1 : Nat) (h2 : Nat) (h3 : Nat) (lim : Nat) (ps : Nat) (d : Nat) (fs : Nat → Nat) (fa : Nat → Nat) (fk : Nat → Nat) (hl : ps ≤ lim) (hd : d ≤ ps) (hlim : lim < 1073741824) : CM l yX4_dropFirst wsX4_dropFirst ({ frames := 1, cells := 0, slots := 0, locals := 23 } : Room) D z [.ref h0, .int (nI d)] [(h0, .inr (4, [.int (nI lim), .ref h1, .ref h2, .ref h3, .int (nI ps)])), (h1, .inl ((TY D)[0].1, lim, .inl (nf fs))), (h2, .inl ((TY D)[0].1, lim, .inl (nf fa))), (h3, .inl ((TY D)[0].1, lim, .inl (nf fk)))] (fun r w => r = none ∧ w = [(h0, .inr (4, [.int (nI lim), .ref h1, .ref h2, .ref h3, .int (nI (ps - d))])), (h1, .inl ((TY D)[0].1, lim, .inl (nf (dff fs d (ps - d))))), (h2, .inl ((TY D)[0].1, lim, .inl (nf (dff fa d (ps - d))))), (h3, .inl ((TY D)[0].1, lim, .inl (nf (dff fk d (ps - d)))))]) 0 0 := by
  refine CM_void (own := RX4) (cc := cX4_dropFirst) (maxL := 4) (L0 := [(0, .ref h0), (1, .int (nI d))]) (by decide) rfl rfl (Nat.le_of_ble_eq_true rfl) rfl (fun X O E => ?_)
  refine g_aload_n O dX4_dropFirst_0 0 rfl rfl ?_
  refine g_get O hiX4_dropFirst_X4 0 rfl rfl 4 (by decide) (by decide +kernel) rfl dX4_dropFirst_1 ?_
  refine g_istore_n (L' := [(0, .ref h0), (1, .int (nI d)), (2, .int (nI ps))]) O dX4_dropFirst_4 rfl (by decide) [1, 2, 0] rfl ?_
  refine g_aload_n O dX4_dropFirst_5 0 rfl rfl ?_
  refine g_iconst (x := (nI 0)) O dX4_dropFirst_6 (by decide +kernel) ?_
  refine g_put (ws' := [(h0, .inr (4, [.int (nI lim), .ref h1, .ref h2, .ref h3, .int (nI 0)])), (h1, .inl ((TY D)[0].1, lim, .inl (nf fs))), (h2, .inl ((TY D)[0].1, lim, .inl (nf fa))), (h3, .inl ((TY D)[0].1, lim, .inl (nf fk)))]) O hiX4_dropFirst_X4 tyX4 tyX4_ok nmX4 0 rfl rfl 4 (by decide) (by decide +kernel) rfl (tyX4_ok 4 (by decide)) rfl rfl (Nat.le_of_ble_eq_true rfl) dX4_dropFirst_7 rfl ?_
  refine g_iload_n O dX4_dropFirst_10 1 rfl rfl ?_
  refine g_iconst (x := (nI 0)) O dX4_dropFirst_11 (by decide +kernel) ?_
  refine g_max O (by decide +kernel) (by decide +kernel) (by decide +kernel) (by decide +kernel) (by decide) (Nat.le_of_ble_eq_true rfl) (by decide) dX4_dropFirst_12 ?_
  refine g_eq (st' := [.int (nI (max d 0))]) (by show ([.int (if (nI d) < (nI 0) then (nI 0) else (nI d))] : List Value) = _; rw [nI_max (by omega) (by omega)]) rfl rfl ?_
  rw [Nat.max_eq_left (Nat.zero_le d)]
  refine g_istore_n (L' := [(0, .ref h0), (1, .int (nI d)), (2, .int (nI ps)), (3, .int (nI d))]) O dX4_dropFirst_15 rfl (by decide) [1, 2, 3, 0] rfl ?_
  have J16 : ∀ (n_ : Nat), ∀ (i_ : Nat) (Fs : Nat → Nat) (Fa : Nat → Nat) (Fk : Nat → Nat) (hi_ : d + i_ ≤ ps) (hF : Fs = dff fs d i_ ∧ Fa = dff fa d i_ ∧ Fk = dff fk d i_), ps - i_ < n_ → G X 0 0 16 [(0, .ref h0), (1, .int (nI d)), (2, .int (nI ps)), (3, .int (nI (d + i_)))] [] [(h0, .inr (4, [.int (nI lim), .ref h1, .ref h2, .ref h3, .int (nI i_)])), (h1, .inl ((TY D)[0].1, lim, .inl (nf Fs))), (h2, .inl ((TY D)[0].1, lim, .inl (nf Fa))), (h3, .inl ((TY D)[0].1, lim, .inl (nf Fk)))] := by
    intro n_
    induction n_ with
    | zero => intro i_ Fs Fa Fk hi_ hF hm_; exact absurd hm_ (Nat.not_lt_zero _)
    | succ n_ ih_ =>
      intro i_ Fs Fa Fk hi_ hF hm_
      refine g_iload_n O dX4_dropFirst_16 3 rfl rfl ?_
      refine g_iload_n O dX4_dropFirst_17 2 rfl rfl ?_
      refine g_icmp_geN (tgt := 49) O (by omega) (by omega) dX4_dropFirst_18 (by decide) (fun c_1 => ?_) (fun c_1 => ?_)
      ·
        obtain ⟨rfl, rfl, rfl⟩ := hF
        obtain rfl : i_ = ps - d := by omega
        exact E 49 _ _ dX4_dropFirst_49 ⟨rfl, rfl⟩
      ·
        refine g_aload_n O dX4_dropFirst_21 0 rfl rfl ?_
        refine g_aload_n O dX4_dropFirst_22 0 rfl rfl ?_
        refine g_get O hiX4_dropFirst_X4 0 rfl rfl 1 (by decide) (by decide +kernel) rfl dX4_dropFirst_23 ?_
        refine g_iload_n O dX4_dropFirst_26 3 rfl rfl ?_
        refine g_ialdN O 1 rfl (by omega) (by omega) dX4_dropFirst_27 ?_
        refine g_aload_n O dX4_dropFirst_28 0 rfl rfl ?_
        refine g_get O hiX4_dropFirst_X4 0 rfl rfl 2 (by decide) (by decide +kernel) rfl dX4_dropFirst_29 ?_
        refine g_iload_n O dX4_dropFirst_32 3 rfl rfl ?_
        refine g_ialdN O 2 rfl (by omega) (by omega) dX4_dropFirst_33 ?_
        refine g_aload_n O dX4_dropFirst_34 0 rfl rfl ?_
        refine g_get O hiX4_dropFirst_X4 0 rfl rfl 3 (by decide) (by decide +kernel) rfl dX4_dropFirst_35 ?_
        refine g_iload_n O dX4_dropFirst_38 3 rfl rfl ?_
        refine g_ialdN O 3 rfl (by omega) (by omega) dX4_dropFirst_39 ?_
        refine g_callV (As := [.int (nI (Fs (d + i_))), .int (nI (Fa (d + i_))), .int (nI (Fk (d + i_)))]) (wr := []) O (kX4_append l D z h0 h1 h2 h3 lim i_ (Fs (d + i_)) (Fa (d + i_)) (Fk (d + i_)) Fs Fa Fk (by first | assumption | omega) (by first | assumption | omega)) gX4_dropFirst_X4_append rfl rfl rfl 3 (by decide +kernel) (by decide) (by decide) (q0 := 0) rfl rfl rfl [0, 1, 2, 3] [] rfl (by decide) rfl (by decide) (by decide) rfl rfl (Nat.le_of_ble_eq_true rfl) dX4_dropFirst_40 (fun r_2 w_3 hp => ?_)
        obtain ⟨rfl, rfl⟩ := hp
        refine g_eq (st' := []) (ws' := [(h0, .inr (4, [.int (nI lim), .ref h1, .ref h2, .ref h3, .int (nI (i_ + 1))])), (h1, .inl ((TY D)[0].1, lim, .inl (nf (upf Fs i_ (Fs (d + i_)))))), (h2, .inl ((TY D)[0].1, lim, .inl (nf (upf Fa i_ (Fa (d + i_)))))), (h3, .inl ((TY D)[0].1, lim, .inl (nf (upf Fk i_ (Fk (d + i_))))))]) rfl rfl rfl ?_
        refine g_iincN (L' := [(0, .ref h0), (1, .int (nI d)), (2, .int (nI ps)), (3, .int (nI (d + i_ + 1)))]) O dX4_dropFirst_43 3 rfl (by decide) [1, 2, 3, 0] rfl ?_
        refine g_goto (tgt := 16) O dX4_dropFirst_46 (by decide) ?_
        exact ih_ (i_ + 1) _ _ _ (by first | assumption | omega | rfl) (by rw [hF.1, hF.2.1, hF.2.2]; exact ⟨dff_s _ _ _, dff_s _ _ _, dff_s _ _ _⟩) (by omega)
  exact J16 _ 0 _ _ _ (hd) (⟨(dff_0 _ _).symm, (dff_0 _ _).symm, (dff_0 _ _).symm⟩) (Nat.lt_succ_self _)

theorem hiX4_sizeAt_X4 : ∀ w ∈ wsX40, w ∈ wsX4_sizeAt := by decide +kernel
set_option maxHeartbeats 4000000 in
set_option maxRecDepth 100000 in
/-- how many bowings at a side -/
theorem kX4_sizeAt (l : Launch) (D : va_G) (z : Nat × Nat × Nat) (h0 : Nat) (h1 : Nat) (h2 : Nat) (h3 : Nat) (lim : Nat) (ps : Nat) (x : Nat) (fs : Nat → Nat) (fa : Nat → Nat) (fk : Nat → Nat) (hl : ps ≤ lim) (hlim : lim < 1073741824) (hx : x < 2147483648) (hfs : ∀ j, j < ps → fs j < 2147483648) : CM l yX4_sizeAt wsX4_sizeAt ({ frames := 0, cells := 0, slots := 0, locals := 0 } : Room) D z [.ref h0, .int (nI x)] [(h0, .inr (4, [.int (nI lim), .ref h1, .ref h2, .ref h3, .int (nI ps)])), (h1, .inl ((TY D)[0].1, lim, .inl (nf fs))), (h2, .inl ((TY D)[0].1, lim, .inl (nf fa))), (h3, .inl ((TY D)[0].1, lim, .inl (nf fk)))] (fun r w => r = some (.int (nI (cntB (isB fs x) ps))) ∧ w = [(h0, .inr (4, [.int (nI lim), .ref h1, .ref h2, .ref h3, .int (nI ps)])), (h1, .inl ((TY D)[0].1, lim, .inl (nf fs))), (h2, .inl ((TY D)[0].1, lim, .inl (nf fa))), (h3, .inl ((TY D)[0].1, lim, .inl (nf fk)))]) 0 0 := by
  refine CM_int (own := RX4) (cc := cX4_sizeAt) (maxL := 4) (L0 := [(0, .ref h0), (1, .int (nI x))]) (by decide) rfl rfl (Nat.le_of_ble_eq_true rfl) rfl (fun X O E => ?_)
  refine g_iconst (x := (nI 0)) O dX4_sizeAt_0 (by decide +kernel) ?_
  refine g_istore_n (L' := [(0, .ref h0), (1, .int (nI x)), (2, .int (nI 0))]) O dX4_sizeAt_1 rfl (by decide) [1, 2, 0] rfl ?_
  refine g_iconst (x := (nI 0)) O dX4_sizeAt_2 (by decide +kernel) ?_
  refine g_istore_n (L' := [(0, .ref h0), (1, .int (nI x)), (2, .int (nI 0)), (3, .int (nI 0))]) O dX4_sizeAt_3 rfl (by decide) [1, 2, 3, 0] rfl ?_
  have J4 : ∀ (n_ : Nat), ∀ (i_ : Nat) (c_ : Nat) (hi_ : i_ ≤ ps) (hc_ : c_ = cntB (isB fs x) i_), ps - i_ < n_ → G X 0 0 4 [(0, .ref h0), (1, .int (nI x)), (2, .int (nI c_)), (3, .int (nI i_))] [] [(h0, .inr (4, [.int (nI lim), .ref h1, .ref h2, .ref h3, .int (nI ps)])), (h1, .inl ((TY D)[0].1, lim, .inl (nf fs))), (h2, .inl ((TY D)[0].1, lim, .inl (nf fa))), (h3, .inl ((TY D)[0].1, lim, .inl (nf fk)))] := by
    intro n_
    induction n_ with
    | zero => intro i_ c_ hi_ hc_ hm_; exact absurd hm_ (Nat.not_lt_zero _)
    | succ n_ ih_ =>
      intro i_ c_ hi_ hc_ hm_
      have hcl := cntB_le (isB fs x) i_
      refine g_iload_n O dX4_sizeAt_4 3 rfl rfl ?_
      refine g_aload_n O dX4_sizeAt_5 0 rfl rfl ?_
      refine g_get O hiX4_sizeAt_X4 0 rfl rfl 4 (by decide) (by decide +kernel) rfl dX4_sizeAt_6 ?_
      refine g_icmp_geN (tgt := 31) O (by omega) (by omega) dX4_sizeAt_9 (by decide) (fun c_1 => ?_) (fun c_1 => ?_)
      ·
        have hpi : ps = i_ := by omega
        refine g_iload_n O dX4_sizeAt_31 2 rfl rfl ?_
        exact E 32 _ (nI c_) _ dX4_sizeAt_32 (by rw [hc_, hpi]; exact ⟨rfl, rfl⟩)
      ·
        have hfi := hfs i_ c_1
        refine g_aload_n O dX4_sizeAt_12 0 rfl rfl ?_
        refine g_get O hiX4_sizeAt_X4 0 rfl rfl 1 (by decide) (by decide +kernel) rfl dX4_sizeAt_13 ?_
        refine g_iload_n O dX4_sizeAt_16 3 rfl rfl ?_
        refine g_ialdN O 1 rfl (by omega) (by omega) dX4_sizeAt_17 ?_
        refine g_iload_n O dX4_sizeAt_18 1 rfl rfl ?_
        refine g_icmp_neN (tgt := 25) O (by omega) (by omega) dX4_sizeAt_19 (by decide) (fun c_2 => ?_) (fun c_2 => ?_)
        ·
          refine g_iincN (L' := [(0, .ref h0), (1, .int (nI x)), (2, .int (nI c_)), (3, .int (nI (i_ + 1)))]) O dX4_sizeAt_25 3 rfl (by decide) [1, 2, 3, 0] rfl ?_
          refine g_goto (tgt := 4) O dX4_sizeAt_28 (by decide) ?_
          exact ih_ (i_ + 1) _ (by first | assumption | omega | rfl) (by first | exact (by rw [hc_]; exact (cntB_t (by simp only [isB]; simp_all)).symm) | exact (by rw [hc_]; exact (cntB_f (by simp only [isB]; simp_all)).symm)) (by omega)
        ·
          refine g_iincN (L' := [(0, .ref h0), (1, .int (nI x)), (2, .int (nI (c_ + 1))), (3, .int (nI i_))]) O dX4_sizeAt_22 2 rfl (by decide) [1, 2, 0, 3] rfl ?_
          refine g_iincN (L' := [(0, .ref h0), (1, .int (nI x)), (2, .int (nI (c_ + 1))), (3, .int (nI (i_ + 1)))]) O dX4_sizeAt_25 3 rfl (by decide) [1, 2, 3, 0] rfl ?_
          refine g_goto (tgt := 4) O dX4_sizeAt_28 (by decide) ?_
          exact ih_ (i_ + 1) _ (by first | assumption | omega | rfl) (by first | exact (by rw [hc_]; exact (cntB_t (by simp only [isB]; simp_all)).symm) | exact (by rw [hc_]; exact (cntB_f (by simp only [isB]; simp_all)).symm)) (by omega)
  exact J4 _ 0 0 (Nat.zero_le _) (rfl) (Nat.lt_succ_self _)

theorem hiX4_dropSide_X4 : ∀ w ∈ wsX40, w ∈ wsX4_dropSide := by decide +kernel
set_option maxHeartbeats 4000000 in
set_option maxRecDepth 100000 in
/-- all bowings at a side go -/
theorem kX4_dropSide (l : Launch) (D : va_G) (z : Nat × Nat × Nat) (h0 : Nat) (h1 : Nat) (h2 : Nat) (h3 : Nat) (lim : Nat) (ps : Nat) (x : Nat) (fs : Nat → Nat) (fa : Nat → Nat) (fk : Nat → Nat) (hl : ps ≤ lim) (hlim : lim < 1073741824) (hx : x < 2147483648) (hfs : ∀ j, j < ps → fs j < 2147483648) : CM l yX4_dropSide wsX4_dropSide ({ frames := 1, cells := 0, slots := 0, locals := 23 } : Room) D z [.ref h0, .int (nI x)] [(h0, .inr (4, [.int (nI lim), .ref h1, .ref h2, .ref h3, .int (nI ps)])), (h1, .inl ((TY D)[0].1, lim, .inl (nf fs))), (h2, .inl ((TY D)[0].1, lim, .inl (nf fa))), (h3, .inl ((TY D)[0].1, lim, .inl (nf fk)))] (fun r w => r = some (.int (nI (ps - cntB (isN fs x) ps))) ∧ w = [(h0, .inr (4, [.int (nI lim), .ref h1, .ref h2, .ref h3, .int (nI (cntB (isN fs x) ps))])), (h1, .inl ((TY D)[0].1, lim, .inl (nf (flt fs (isN fs x) ps)))), (h2, .inl ((TY D)[0].1, lim, .inl (nf (flt fa (isN fs x) ps)))), (h3, .inl ((TY D)[0].1, lim, .inl (nf (flt fk (isN fs x) ps))))]) 0 0 := by
  refine CM_int (own := RX4) (cc := cX4_dropSide) (maxL := 4) (L0 := [(0, .ref h0), (1, .int (nI x))]) (by decide) rfl rfl (Nat.le_of_ble_eq_true rfl) rfl (fun X O E => ?_)
  refine g_aload_n O dX4_dropSide_0 0 rfl rfl ?_
  refine g_get O hiX4_dropSide_X4 0 rfl rfl 4 (by decide) (by decide +kernel) rfl dX4_dropSide_1 ?_
  refine g_istore_n (L' := [(0, .ref h0), (1, .int (nI x)), (2, .int (nI ps))]) O dX4_dropSide_4 rfl (by decide) [1, 2, 0] rfl ?_
  refine g_aload_n O dX4_dropSide_5 0 rfl rfl ?_
  refine g_iconst (x := (nI 0)) O dX4_dropSide_6 (by decide +kernel) ?_
  refine g_put (ws' := [(h0, .inr (4, [.int (nI lim), .ref h1, .ref h2, .ref h3, .int (nI 0)])), (h1, .inl ((TY D)[0].1, lim, .inl (nf fs))), (h2, .inl ((TY D)[0].1, lim, .inl (nf fa))), (h3, .inl ((TY D)[0].1, lim, .inl (nf fk)))]) O hiX4_dropSide_X4 tyX4 tyX4_ok nmX4 0 rfl rfl 4 (by decide) (by decide +kernel) rfl (tyX4_ok 4 (by decide)) rfl rfl (Nat.le_of_ble_eq_true rfl) dX4_dropSide_7 rfl ?_
  refine g_iconst (x := (nI 0)) O dX4_dropSide_10 (by decide +kernel) ?_
  refine g_istore_n (L' := [(0, .ref h0), (1, .int (nI x)), (2, .int (nI ps)), (3, .int (nI 0))]) O dX4_dropSide_11 rfl (by decide) [1, 2, 3, 0] rfl ?_
  have J12 : ∀ (n_ : Nat), ∀ (i_ : Nat) (c_ : Nat) (Fs : Nat → Nat) (Fa : Nat → Nat) (Fk : Nat → Nat) (hi_ : i_ ≤ ps) (hc_ : c_ = cntB (isN fs x) i_) (hF : Fs = flt fs (isN fs x) i_ ∧ Fa = flt fa (isN fs x) i_ ∧ Fk = flt fk (isN fs x) i_), ps - i_ < n_ → G X 0 0 12 [(0, .ref h0), (1, .int (nI x)), (2, .int (nI ps)), (3, .int (nI i_))] [] [(h0, .inr (4, [.int (nI lim), .ref h1, .ref h2, .ref h3, .int (nI c_)])), (h1, .inl ((TY D)[0].1, lim, .inl (nf Fs))), (h2, .inl ((TY D)[0].1, lim, .inl (nf Fa))), (h3, .inl ((TY D)[0].1, lim, .inl (nf Fk)))] := by
    intro n_
    induction n_ with
    | zero => intro i_ c_ Fs Fa Fk hi_ hc_ hF hm_; exact absurd hm_ (Nat.not_lt_zero _)
    | succ n_ ih_ =>
      intro i_ c_ Fs Fa Fk hi_ hc_ hF hm_
      have hcl := cntB_le (isN fs x) i_
      have hfe : Fs i_ = fs i_ := by rw [hF.1]; exact flt_hi _ _ _ _ hcl
      refine g_iload_n O dX4_dropSide_12 3 rfl rfl ?_
      refine g_iload_n O dX4_dropSide_13 2 rfl rfl ?_
      refine g_icmp_geN (tgt := 55) O (by omega) (by omega) dX4_dropSide_14 (by decide) (fun c_1 => ?_) (fun c_1 => ?_)
      ·
        have hpi : ps = i_ := by omega
        refine g_iload_n O dX4_dropSide_55 2 rfl rfl ?_
        refine g_aload_n O dX4_dropSide_56 0 rfl rfl ?_
        refine g_get O hiX4_dropSide_X4 0 rfl rfl 4 (by decide) (by decide +kernel) rfl dX4_dropSide_57 ?_
        refine g_isubN O (by omega) dX4_dropSide_60 ?_
        exact E 61 _ (nI (ps - c_)) _ dX4_dropSide_61 (by rw [hc_, hF.1, hF.2.1, hF.2.2, hpi]; exact ⟨rfl, rfl⟩)
      ·
        have hfi := hfs i_ c_1
        refine g_aload_n O dX4_dropSide_17 0 rfl rfl ?_
        refine g_get O hiX4_dropSide_X4 0 rfl rfl 1 (by decide) (by decide +kernel) rfl dX4_dropSide_18 ?_
        refine g_iload_n O dX4_dropSide_21 3 rfl rfl ?_
        refine g_ialdN O 1 rfl (by omega) (by omega) dX4_dropSide_22 ?_
        refine g_iload_n O dX4_dropSide_23 1 rfl rfl ?_
        refine g_icmp_eqN (tgt := 49) O (by omega) (by omega) dX4_dropSide_24 (by decide) (fun c_2 => ?_) (fun c_2 => ?_)
        ·
          have hq : isN fs x i_ = false := by simp only [isN]; rw [← hfe, c_2]; simp
          refine g_iincN (L' := [(0, .ref h0), (1, .int (nI x)), (2, .int (nI ps)), (3, .int (nI (i_ + 1)))]) O dX4_dropSide_49 3 rfl (by decide) [1, 2, 3, 0] rfl ?_
          refine g_goto (tgt := 12) O dX4_dropSide_52 (by decide) ?_
          exact ih_ (i_ + 1) _ _ _ _ (by first | assumption | omega | rfl) (by first | exact (by rw [hc_]; exact (cntB_t (by simp only [isN]; simp_all)).symm) | exact (by rw [hc_]; exact (cntB_f (by simp only [isN]; simp_all)).symm)) (by first | exact (by rw [hF.1, hF.2.1, hF.2.2]; exact ⟨(flt_f hq).symm, (flt_f hq).symm, (flt_f hq).symm⟩) | exact (by rw [hc_, hF.1, hF.2.1, hF.2.2]; exact ⟨(flt_t hq).symm, (flt_t hq).symm, (flt_t hq).symm⟩)) (by omega)
        ·
          have hq : isN fs x i_ = true := by simp only [isN]; rw [← hfe]; simp [c_2]
          refine g_aload_n O dX4_dropSide_27 0 rfl rfl ?_
          refine g_aload_n O dX4_dropSide_28 0 rfl rfl ?_
          refine g_get O hiX4_dropSide_X4 0 rfl rfl 1 (by decide) (by decide +kernel) rfl dX4_dropSide_29 ?_
          refine g_iload_n O dX4_dropSide_32 3 rfl rfl ?_
          refine g_ialdN O 1 rfl (by omega) (by omega) dX4_dropSide_33 ?_
          refine g_aload_n O dX4_dropSide_34 0 rfl rfl ?_
          refine g_get O hiX4_dropSide_X4 0 rfl rfl 2 (by decide) (by decide +kernel) rfl dX4_dropSide_35 ?_
          refine g_iload_n O dX4_dropSide_38 3 rfl rfl ?_
          refine g_ialdN O 2 rfl (by omega) (by omega) dX4_dropSide_39 ?_
          refine g_aload_n O dX4_dropSide_40 0 rfl rfl ?_
          refine g_get O hiX4_dropSide_X4 0 rfl rfl 3 (by decide) (by decide +kernel) rfl dX4_dropSide_41 ?_
          refine g_iload_n O dX4_dropSide_44 3 rfl rfl ?_
          refine g_ialdN O 3 rfl (by omega) (by omega) dX4_dropSide_45 ?_
          refine g_callV (As := [.int (nI (Fs i_)), .int (nI (Fa i_)), .int (nI (Fk i_))]) (wr := []) O (kX4_append l D z h0 h1 h2 h3 lim c_ (Fs i_) (Fa i_) (Fk i_) Fs Fa Fk (by first | assumption | omega) (by first | assumption | omega)) gX4_dropSide_X4_append rfl rfl rfl 3 (by decide +kernel) (by decide) (by decide) (q0 := 0) rfl rfl rfl [0, 1, 2, 3] [] rfl (by decide) rfl (by decide) (by decide) rfl rfl (Nat.le_of_ble_eq_true rfl) dX4_dropSide_46 (fun r_3 w_4 hp => ?_)
          obtain ⟨rfl, rfl⟩ := hp
          refine g_eq (st' := []) (ws' := [(h0, .inr (4, [.int (nI lim), .ref h1, .ref h2, .ref h3, .int (nI (c_ + 1))])), (h1, .inl ((TY D)[0].1, lim, .inl (nf (upf Fs c_ (Fs i_))))), (h2, .inl ((TY D)[0].1, lim, .inl (nf (upf Fa c_ (Fa i_))))), (h3, .inl ((TY D)[0].1, lim, .inl (nf (upf Fk c_ (Fk i_)))))]) rfl rfl rfl ?_
          refine g_iincN (L' := [(0, .ref h0), (1, .int (nI x)), (2, .int (nI ps)), (3, .int (nI (i_ + 1)))]) O dX4_dropSide_49 3 rfl (by decide) [1, 2, 3, 0] rfl ?_
          refine g_goto (tgt := 12) O dX4_dropSide_52 (by decide) ?_
          exact ih_ (i_ + 1) _ _ _ _ (by first | assumption | omega | rfl) (by first | exact (by rw [hc_]; exact (cntB_t (by simp only [isN]; simp_all)).symm) | exact (by rw [hc_]; exact (cntB_f (by simp only [isN]; simp_all)).symm)) (by first | exact (by rw [hF.1, hF.2.1, hF.2.2]; exact ⟨(flt_f hq).symm, (flt_f hq).symm, (flt_f hq).symm⟩) | exact (by rw [hc_, hF.1, hF.2.1, hF.2.2]; exact ⟨(flt_t hq).symm, (flt_t hq).symm, (flt_t hq).symm⟩)) (by omega)
  exact J12 _ 0 _ _ _ _ (Nat.zero_le _) (rfl) (⟨rfl, rfl, rfl⟩) (Nat.lt_succ_self _)

theorem hiX4_init_X4 : ∀ w ∈ wsX40, w ∈ wsX4_init := by decide +kernel
set_option maxHeartbeats 4000000 in
set_option maxRecDepth 100000 in
/-- a new piece for 16 -/
theorem kX4_init16 (l : Launch) (D : va_G) (z : Nat × Nat × Nat) (h0 : Nat)  : CM l yX4_init wsX4_init ({ frames := 1, cells := 3, slots := 48, locals := 21 } : Room) D z [.ref h0, .int (nI 16)] [(h0, .inr (4, [.int (nI 0), .null, .null, .null, .int (nI 0)]))] (fun r w => ∃ (q0 : Nat), ∃ (q1 : Nat), ∃ (q2 : Nat), r = none ∧ w = [(h0, .inr (4, [.int (nI 16), .ref q0, .ref q1, .ref q2, .int (nI 0)])), (q0, .inl ((TY D)[0].1, 16, .inl (nf (fun _ => 0)))), (q1, .inl ((TY D)[0].1, 16, .inl (nf (fun _ => 0)))), (q2, .inl ((TY D)[0].1, 16, .inl (nf (fun _ => 0))))]) 3 48 := by
  refine CM_void (own := RX4) (cc := cX4_init) (maxL := 2) (L0 := [(0, .ref h0), (1, .int (nI 16))]) (by decide) rfl rfl (Nat.le_of_ble_eq_true rfl) rfl (fun X O E => ?_)
  refine g_aload_n O dX4_init_0 0 rfl rfl ?_
  refine g_objInit O (by decide +kernel) (by decide +kernel) (by decide +kernel) (by decide) (Nat.le_of_ble_eq_true rfl) dX4_init_1 ?_
  refine g_aload_n O dX4_init_4 0 rfl rfl ?_
  refine g_iconst (x := (nI 0)) O dX4_init_5 (by decide +kernel) ?_
  refine g_put (ws' := [(h0, .inr (4, [.int (nI 0), .null, .null, .null, .int (nI 0)]))]) O hiX4_init_X4 tyX4 tyX4_ok nmX4 0 rfl rfl 4 (by decide) (by decide +kernel) rfl (tyX4_ok 4 (by decide)) rfl rfl (Nat.le_of_ble_eq_true rfl) dX4_init_6 rfl ?_
  refine g_aload_n O dX4_init_9 0 rfl rfl ?_
  refine g_iload_n O dX4_init_10 1 rfl rfl ?_
  refine g_iconst (x := (nI 0)) O dX4_init_11 (by decide +kernel) ?_
  refine g_max O (by decide +kernel) (by decide +kernel) (by decide +kernel) (by decide +kernel) (by decide) (Nat.le_of_ble_eq_true rfl) (by decide) dX4_init_12 ?_
  refine g_eq (st' := [.int (nI 16), .ref h0]) (by rw [show (if (nI 16) < (nI 0) then (nI 0) else (nI 16)) = (nI 16) from by decide +kernel]) rfl rfl ?_
  refine g_putF (ws' := [(h0, .inr (4, [.int (nI 16), .null, .null, .null, .int (nI 0)]))]) O hiX4_init_X4 tyX4 tyX4_ok nmX4 0 rfl rfl 0 (by decide) (by decide +kernel) rfl rfl rfl (tyX4_ok 0 (by decide)) rfl rfl (Nat.le_of_ble_eq_true rfl) dX4_init_15 rfl ?_
  refine g_aload_n O dX4_init_18 0 rfl rfl ?_
  refine g_aload_n O dX4_init_19 0 rfl rfl ?_
  refine g_get O hiX4_init_X4 0 rfl rfl 0 (by decide) (by decide +kernel) rfl dX4_init_20 ?_
  refine g_newI (N := 16) O (by decide +kernel) (nI_pos (by decide)) (nI_clamp (by decide)) (by decide) (by decide) (by decide) dX4_init_23 (fun q_1 => ?_)
  refine g_eq (ws' := [(h0, .inr (4, [.int (nI 16), .null, .null, .null, .int (nI 0)])), (q_1, .inl ((TY D)[0].1, 16, .inl (nf (fun _ => 0))))]) rfl rfl (by rfl) ?_
  refine g_putF (ws' := [(h0, .inr (4, [.int (nI 16), .ref q_1, .null, .null, .int (nI 0)])), (q_1, .inl ((TY D)[0].1, 16, .inl (nf (fun _ => 0))))]) O hiX4_init_X4 tyX4 tyX4_ok nmX4 0 rfl rfl 1 (by decide) (by decide +kernel) rfl rfl rfl (tyX4_ok 1 (by decide)) rfl rfl (Nat.le_of_ble_eq_true rfl) dX4_init_25 rfl ?_
  refine g_aload_n O dX4_init_28 0 rfl rfl ?_
  refine g_aload_n O dX4_init_29 0 rfl rfl ?_
  refine g_get O hiX4_init_X4 0 rfl rfl 0 (by decide) (by decide +kernel) rfl dX4_init_30 ?_
  refine g_newI (N := 16) O (by decide +kernel) (nI_pos (by decide)) (nI_clamp (by decide)) (by decide) (by decide) (by decide) dX4_init_33 (fun q_2 => ?_)
  refine g_eq (ws' := [(h0, .inr (4, [.int (nI 16), .ref q_1, .null, .null, .int (nI 0)])), (q_1, .inl ((TY D)[0].1, 16, .inl (nf (fun _ => 0)))), (q_2, .inl ((TY D)[0].1, 16, .inl (nf (fun _ => 0))))]) rfl rfl (by rfl) ?_
  refine g_putF (ws' := [(h0, .inr (4, [.int (nI 16), .ref q_1, .ref q_2, .null, .int (nI 0)])), (q_1, .inl ((TY D)[0].1, 16, .inl (nf (fun _ => 0)))), (q_2, .inl ((TY D)[0].1, 16, .inl (nf (fun _ => 0))))]) O hiX4_init_X4 tyX4 tyX4_ok nmX4 0 rfl rfl 2 (by decide) (by decide +kernel) rfl rfl rfl (tyX4_ok 2 (by decide)) rfl rfl (Nat.le_of_ble_eq_true rfl) dX4_init_35 rfl ?_
  refine g_aload_n O dX4_init_38 0 rfl rfl ?_
  refine g_aload_n O dX4_init_39 0 rfl rfl ?_
  refine g_get O hiX4_init_X4 0 rfl rfl 0 (by decide) (by decide +kernel) rfl dX4_init_40 ?_
  refine g_newI (N := 16) O (by decide +kernel) (nI_pos (by decide)) (nI_clamp (by decide)) (by decide) (by decide) (by decide) dX4_init_43 (fun q_3 => ?_)
  refine g_eq (ws' := [(h0, .inr (4, [.int (nI 16), .ref q_1, .ref q_2, .null, .int (nI 0)])), (q_1, .inl ((TY D)[0].1, 16, .inl (nf (fun _ => 0)))), (q_2, .inl ((TY D)[0].1, 16, .inl (nf (fun _ => 0)))), (q_3, .inl ((TY D)[0].1, 16, .inl (nf (fun _ => 0))))]) rfl rfl (by rfl) ?_
  refine g_putF (ws' := [(h0, .inr (4, [.int (nI 16), .ref q_1, .ref q_2, .ref q_3, .int (nI 0)])), (q_1, .inl ((TY D)[0].1, 16, .inl (nf (fun _ => 0)))), (q_2, .inl ((TY D)[0].1, 16, .inl (nf (fun _ => 0)))), (q_3, .inl ((TY D)[0].1, 16, .inl (nf (fun _ => 0))))]) O hiX4_init_X4 tyX4 tyX4_ok nmX4 0 rfl rfl 3 (by decide) (by decide +kernel) rfl rfl rfl (tyX4_ok 3 (by decide)) rfl rfl (Nat.le_of_ble_eq_true rfl) dX4_init_45 rfl ?_
  exact E 48 _ _ dX4_init_48 (⟨_, _, _, rfl, rfl⟩)

set_option maxHeartbeats 4000000 in
set_option maxRecDepth 100000 in
/-- a new piece for 60 -/
theorem kX4_init60 (l : Launch) (D : va_G) (z : Nat × Nat × Nat) (h0 : Nat)  : CM l yX4_init wsX4_init ({ frames := 1, cells := 3, slots := 180, locals := 21 } : Room) D z [.ref h0, .int (nI 60)] [(h0, .inr (4, [.int (nI 0), .null, .null, .null, .int (nI 0)]))] (fun r w => ∃ (q0 : Nat), ∃ (q1 : Nat), ∃ (q2 : Nat), r = none ∧ w = [(h0, .inr (4, [.int (nI 60), .ref q0, .ref q1, .ref q2, .int (nI 0)])), (q0, .inl ((TY D)[0].1, 60, .inl (nf (fun _ => 0)))), (q1, .inl ((TY D)[0].1, 60, .inl (nf (fun _ => 0)))), (q2, .inl ((TY D)[0].1, 60, .inl (nf (fun _ => 0))))]) 3 180 := by
  refine CM_void (own := RX4) (cc := cX4_init) (maxL := 2) (L0 := [(0, .ref h0), (1, .int (nI 60))]) (by decide) rfl rfl (Nat.le_of_ble_eq_true rfl) rfl (fun X O E => ?_)
  refine g_aload_n O dX4_init_0 0 rfl rfl ?_
  refine g_objInit O (by decide +kernel) (by decide +kernel) (by decide +kernel) (by decide) (Nat.le_of_ble_eq_true rfl) dX4_init_1 ?_
  refine g_aload_n O dX4_init_4 0 rfl rfl ?_
  refine g_iconst (x := (nI 0)) O dX4_init_5 (by decide +kernel) ?_
  refine g_put (ws' := [(h0, .inr (4, [.int (nI 0), .null, .null, .null, .int (nI 0)]))]) O hiX4_init_X4 tyX4 tyX4_ok nmX4 0 rfl rfl 4 (by decide) (by decide +kernel) rfl (tyX4_ok 4 (by decide)) rfl rfl (Nat.le_of_ble_eq_true rfl) dX4_init_6 rfl ?_
  refine g_aload_n O dX4_init_9 0 rfl rfl ?_
  refine g_iload_n O dX4_init_10 1 rfl rfl ?_
  refine g_iconst (x := (nI 0)) O dX4_init_11 (by decide +kernel) ?_
  refine g_max O (by decide +kernel) (by decide +kernel) (by decide +kernel) (by decide +kernel) (by decide) (Nat.le_of_ble_eq_true rfl) (by decide) dX4_init_12 ?_
  refine g_eq (st' := [.int (nI 60), .ref h0]) (by rw [show (if (nI 60) < (nI 0) then (nI 0) else (nI 60)) = (nI 60) from by decide +kernel]) rfl rfl ?_
  refine g_putF (ws' := [(h0, .inr (4, [.int (nI 60), .null, .null, .null, .int (nI 0)]))]) O hiX4_init_X4 tyX4 tyX4_ok nmX4 0 rfl rfl 0 (by decide) (by decide +kernel) rfl rfl rfl (tyX4_ok 0 (by decide)) rfl rfl (Nat.le_of_ble_eq_true rfl) dX4_init_15 rfl ?_
  refine g_aload_n O dX4_init_18 0 rfl rfl ?_
  refine g_aload_n O dX4_init_19 0 rfl rfl ?_
  refine g_get O hiX4_init_X4 0 rfl rfl 0 (by decide) (by decide +kernel) rfl dX4_init_20 ?_
  refine g_newI (N := 60) O (by decide +kernel) (nI_pos (by decide)) (nI_clamp (by decide)) (by decide) (by decide) (by decide) dX4_init_23 (fun q_1 => ?_)
  refine g_eq (ws' := [(h0, .inr (4, [.int (nI 60), .null, .null, .null, .int (nI 0)])), (q_1, .inl ((TY D)[0].1, 60, .inl (nf (fun _ => 0))))]) rfl rfl (by rfl) ?_
  refine g_putF (ws' := [(h0, .inr (4, [.int (nI 60), .ref q_1, .null, .null, .int (nI 0)])), (q_1, .inl ((TY D)[0].1, 60, .inl (nf (fun _ => 0))))]) O hiX4_init_X4 tyX4 tyX4_ok nmX4 0 rfl rfl 1 (by decide) (by decide +kernel) rfl rfl rfl (tyX4_ok 1 (by decide)) rfl rfl (Nat.le_of_ble_eq_true rfl) dX4_init_25 rfl ?_
  refine g_aload_n O dX4_init_28 0 rfl rfl ?_
  refine g_aload_n O dX4_init_29 0 rfl rfl ?_
  refine g_get O hiX4_init_X4 0 rfl rfl 0 (by decide) (by decide +kernel) rfl dX4_init_30 ?_
  refine g_newI (N := 60) O (by decide +kernel) (nI_pos (by decide)) (nI_clamp (by decide)) (by decide) (by decide) (by decide) dX4_init_33 (fun q_2 => ?_)
  refine g_eq (ws' := [(h0, .inr (4, [.int (nI 60), .ref q_1, .null, .null, .int (nI 0)])), (q_1, .inl ((TY D)[0].1, 60, .inl (nf (fun _ => 0)))), (q_2, .inl ((TY D)[0].1, 60, .inl (nf (fun _ => 0))))]) rfl rfl (by rfl) ?_
  refine g_putF (ws' := [(h0, .inr (4, [.int (nI 60), .ref q_1, .ref q_2, .null, .int (nI 0)])), (q_1, .inl ((TY D)[0].1, 60, .inl (nf (fun _ => 0)))), (q_2, .inl ((TY D)[0].1, 60, .inl (nf (fun _ => 0))))]) O hiX4_init_X4 tyX4 tyX4_ok nmX4 0 rfl rfl 2 (by decide) (by decide +kernel) rfl rfl rfl (tyX4_ok 2 (by decide)) rfl rfl (Nat.le_of_ble_eq_true rfl) dX4_init_35 rfl ?_
  refine g_aload_n O dX4_init_38 0 rfl rfl ?_
  refine g_aload_n O dX4_init_39 0 rfl rfl ?_
  refine g_get O hiX4_init_X4 0 rfl rfl 0 (by decide) (by decide +kernel) rfl dX4_init_40 ?_
  refine g_newI (N := 60) O (by decide +kernel) (nI_pos (by decide)) (nI_clamp (by decide)) (by decide) (by decide) (by decide) dX4_init_43 (fun q_3 => ?_)
  refine g_eq (ws' := [(h0, .inr (4, [.int (nI 60), .ref q_1, .ref q_2, .null, .int (nI 0)])), (q_1, .inl ((TY D)[0].1, 60, .inl (nf (fun _ => 0)))), (q_2, .inl ((TY D)[0].1, 60, .inl (nf (fun _ => 0)))), (q_3, .inl ((TY D)[0].1, 60, .inl (nf (fun _ => 0))))]) rfl rfl (by rfl) ?_
  refine g_putF (ws' := [(h0, .inr (4, [.int (nI 60), .ref q_1, .ref q_2, .ref q_3, .int (nI 0)])), (q_1, .inl ((TY D)[0].1, 60, .inl (nf (fun _ => 0)))), (q_2, .inl ((TY D)[0].1, 60, .inl (nf (fun _ => 0)))), (q_3, .inl ((TY D)[0].1, 60, .inl (nf (fun _ => 0))))]) O hiX4_init_X4 tyX4 tyX4_ok nmX4 0 rfl rfl 3 (by decide) (by decide +kernel) rfl rfl rfl (tyX4_ok 3 (by decide)) rfl rfl (Nat.le_of_ble_eq_true rfl) dX4_init_45 rfl ?_
  exact E 48 _ _ dX4_init_48 (⟨_, _, _, rfl, rfl⟩)
end
section
theorem hiX5_coverWith_X5 : ∀ w ∈ wsX50, w ∈ wsX5_coverWith := by decide +kernel
set_option maxHeartbeats 4000000 in
set_option maxRecDepth 100000 in
/-- so many grains on each place -/
theorem kX5_coverWith (l : Launch) (D : va_G) (z : Nat × Nat × Nat) (h0 : Nat) (h1 : Nat) (h2 : Nat) (h3 : Nat) (h4 : Nat) (h5 : Nat) (nc : Nat) (la : Int32) (st : Int32) (sw : Int32) (fl : Int32) (sk : Int32) (mu : Int32) (g : Nat → Nat) (e : Nat)  : CM l yX5_coverWith wsX5_coverWith ({ frames := 0, cells := 0, slots := 0, locals := 0 } : Room) D z [.ref h0, .int (nI e)] [(h0, .inr (5, [.ref h1, .ref h2, .ref h3, .int (nI nc), .ref h4, .ref h5, .int la, .int st, .int sw, .int fl, .int sk, .int mu])), (h1, .inl ((TY D)[0].1, 144, .inl (nf g)))] (fun r w => r = none ∧ w = [(h0, .inr (5, [.ref h1, .ref h2, .ref h3, .int (nI nc), .ref h4, .ref h5, .int la, .int st, .int sw, .int fl, .int sk, .int mu])), (h1, .inl ((TY D)[0].1, 144, .inl (nf (cvf g e 144))))]) 0 0 := by
  refine CM_void (own := RX5) (cc := cX5_coverWith) (maxL := 3) (L0 := [(0, .ref h0), (1, .int (nI e))]) (by decide) rfl rfl (Nat.le_of_ble_eq_true rfl) rfl (fun X O E => ?_)
  refine g_iconst (x := (nI 0)) O dX5_coverWith_0 (by decide +kernel) ?_
  refine g_istore_n (L' := [(0, .ref h0), (1, .int (nI e)), (2, .int (nI 0))]) O dX5_coverWith_1 rfl (by decide) [1, 2, 0] rfl ?_
  have J2 : ∀ (n_ : Nat), ∀ (i_ : Nat) (hi_ : i_ ≤ 144), 144 - i_ < n_ → G X 0 0 2 [(0, .ref h0), (1, .int (nI e)), (2, .int (nI i_))] [] [(h0, .inr (5, [.ref h1, .ref h2, .ref h3, .int (nI nc), .ref h4, .ref h5, .int la, .int st, .int sw, .int fl, .int sk, .int mu])), (h1, .inl ((TY D)[0].1, 144, .inl (nf (cvf g e i_))))] := by
    intro n_
    induction n_ with
    | zero => intro i_ hi_ hm_; exact absurd hm_ (Nat.not_lt_zero _)
    | succ n_ ih_ =>
      intro i_ hi_ hm_
      refine g_iload_n O dX5_coverWith_2 2 rfl rfl ?_
      refine g_sipush (x := (nI 144)) O dX5_coverWith_3 (by decide +kernel) ?_
      refine g_icmp_geN (tgt := 22) O (by omega) (by omega) dX5_coverWith_6 (by decide) (fun c_1 => ?_) (fun c_1 => ?_)
      ·
        obtain rfl : i_ = 144 := by omega
        exact E 22 _ _ dX5_coverWith_22 ⟨rfl, rfl⟩
      ·
        refine g_aload_n O dX5_coverWith_9 0 rfl rfl ?_
        refine g_get O hiX5_coverWith_X5 0 rfl rfl 0 (by decide) (by decide +kernel) rfl dX5_coverWith_10 ?_
        refine g_iload_n O dX5_coverWith_13 2 rfl rfl ?_
        refine g_iload_n O dX5_coverWith_14 1 rfl rfl ?_
        refine g_iastN (f' := (nf (upf (cvf g e i_) i_ e))) (ws' := [(h0, .inr (5, [.ref h1, .ref h2, .ref h3, .int (nI nc), .ref h4, .ref h5, .int la, .int st, .int sw, .int fl, .int sk, .int mu])), (h1, .inl ((TY D)[0].1, 144, .inl (nf (upf (cvf g e i_) i_ e))))]) O 1 rfl (by omega) (by omega) dX5_coverWith_15 (nf_upd _ _ _) rfl ?_
        refine g_iincN (L' := [(0, .ref h0), (1, .int (nI e)), (2, .int (nI (i_ + 1)))]) O dX5_coverWith_16 2 rfl (by decide) [1, 2, 0] rfl ?_
        refine g_goto (tgt := 2) O dX5_coverWith_19 (by decide) ?_
        exact ih_ (i_ + 1) (by first | assumption | omega | rfl) (by omega)
  exact J2 _ 0 (Nat.zero_le _) (Nat.lt_succ_self _)

theorem hiX5_allGrains_X5 : ∀ w ∈ wsX50, w ∈ wsX5_allGrains := by decide +kernel
set_option maxHeartbeats 4000000 in
set_option maxRecDepth 100000 in
/-- all grains -/
theorem kX5_allGrains (l : Launch) (D : va_G) (z : Nat × Nat × Nat) (h0 : Nat) (h1 : Nat) (h2 : Nat) (h3 : Nat) (h4 : Nat) (h5 : Nat) (nc : Nat) (la : Int32) (st : Int32) (sw : Int32) (fl : Int32) (sk : Int32) (mu : Int32) (g : Nat → Nat)  : CM l yX5_allGrains wsX5_allGrains ({ frames := 0, cells := 0, slots := 0, locals := 0 } : Room) D z [.ref h0] [(h0, .inr (5, [.ref h1, .ref h2, .ref h3, .int (nI nc), .ref h4, .ref h5, .int la, .int st, .int sw, .int fl, .int sk, .int mu])), (h1, .inl ((TY D)[0].1, 144, .inl (nf g)))] (fun r w => r = some (.int (nI (smN g 144))) ∧ w = [(h0, .inr (5, [.ref h1, .ref h2, .ref h3, .int (nI nc), .ref h4, .ref h5, .int la, .int st, .int sw, .int fl, .int sk, .int mu])), (h1, .inl ((TY D)[0].1, 144, .inl (nf g)))]) 0 0 := by
  refine CM_int (own := RX5) (cc := cX5_allGrains) (maxL := 3) (L0 := [(0, .ref h0)]) (by decide) rfl rfl (Nat.le_of_ble_eq_true rfl) rfl (fun X O E => ?_)
  refine g_iconst (x := (nI 0)) O dX5_allGrains_0 (by decide +kernel) ?_
  refine g_istore_n (L' := [(0, .ref h0), (1, .int (nI 0))]) O dX5_allGrains_1 rfl (by decide) [1, 0] rfl ?_
  refine g_iconst (x := (nI 0)) O dX5_allGrains_2 (by decide +kernel) ?_
  refine g_istore_n (L' := [(0, .ref h0), (1, .int (nI 0)), (2, .int (nI 0))]) O dX5_allGrains_3 rfl (by decide) [1, 2, 0] rfl ?_
  have J4 : ∀ (n_ : Nat), ∀ (i_ : Nat) (hi_ : i_ ≤ 144), 144 - i_ < n_ → G X 0 0 4 [(0, .ref h0), (1, .int (nI (smN g i_))), (2, .int (nI i_))] [] [(h0, .inr (5, [.ref h1, .ref h2, .ref h3, .int (nI nc), .ref h4, .ref h5, .int la, .int st, .int sw, .int fl, .int sk, .int mu])), (h1, .inl ((TY D)[0].1, 144, .inl (nf g)))] := by
    intro n_
    induction n_ with
    | zero => intro i_ hi_ hm_; exact absurd hm_ (Nat.not_lt_zero _)
    | succ n_ ih_ =>
      intro i_ hi_ hm_
      refine g_iload_n O dX5_allGrains_4 2 rfl rfl ?_
      refine g_sipush (x := (nI 144)) O dX5_allGrains_5 (by decide +kernel) ?_
      refine g_icmp_geN (tgt := 26) O (by omega) (by omega) dX5_allGrains_8 (by decide) (fun c_1 => ?_) (fun c_1 => ?_)
      ·
        obtain rfl : i_ = 144 := by omega
        refine g_iload_n O dX5_allGrains_26 1 rfl rfl ?_
        exact E 27 _ (nI (smN g 144)) _ dX5_allGrains_27 ⟨rfl, rfl⟩
      ·
        refine g_iload_n O dX5_allGrains_11 1 rfl rfl ?_
        refine g_aload_n O dX5_allGrains_12 0 rfl rfl ?_
        refine g_get O hiX5_allGrains_X5 0 rfl rfl 0 (by decide) (by decide +kernel) rfl dX5_allGrains_13 ?_
        refine g_iload_n O dX5_allGrains_16 2 rfl rfl ?_
        refine g_ialdN O 1 rfl (by omega) (by omega) dX5_allGrains_17 ?_
        refine g_iaddN O dX5_allGrains_18 ?_
        refine g_istore_n (L' := [(0, .ref h0), (1, .int (nI ((smN g i_) + (g i_)))), (2, .int (nI i_))]) O dX5_allGrains_19 rfl (by decide) [1, 0, 2] rfl ?_
        refine g_iincN (L' := [(0, .ref h0), (1, .int (nI ((smN g i_) + (g i_)))), (2, .int (nI (i_ + 1)))]) O dX5_allGrains_20 2 rfl (by decide) [1, 2, 0] rfl ?_
        refine g_goto (tgt := 4) O dX5_allGrains_23 (by decide) ?_
        exact ih_ (i_ + 1) (by first | assumption | omega | rfl) (by omega)
  exact J4 _ 0 (Nat.zero_le _) (Nat.lt_succ_self _)

theorem hiX5_mostGrains_X5 : ∀ w ∈ wsX50, w ∈ wsX5_mostGrains := by decide +kernel
set_option maxHeartbeats 4000000 in
set_option maxRecDepth 100000 in
/-- the most grains on a place -/
theorem kX5_mostGrains (l : Launch) (D : va_G) (z : Nat × Nat × Nat) (h0 : Nat) (h1 : Nat) (h2 : Nat) (h3 : Nat) (h4 : Nat) (h5 : Nat) (nc : Nat) (la : Int32) (st : Int32) (sw : Int32) (fl : Int32) (sk : Int32) (mu : Int32) (g : Nat → Nat) (hg : ∀ j, j < 144 → g j < 1073741824) : CM l yX5_mostGrains wsX5_mostGrains ({ frames := 1, cells := 0, slots := 0, locals := 21 } : Room) D z [.ref h0] [(h0, .inr (5, [.ref h1, .ref h2, .ref h3, .int (nI nc), .ref h4, .ref h5, .int la, .int st, .int sw, .int fl, .int sk, .int mu])), (h1, .inl ((TY D)[0].1, 144, .inl (nf g)))] (fun r w => r = some (.int (nI (mxN g 144))) ∧ w = [(h0, .inr (5, [.ref h1, .ref h2, .ref h3, .int (nI nc), .ref h4, .ref h5, .int la, .int st, .int sw, .int fl, .int sk, .int mu])), (h1, .inl ((TY D)[0].1, 144, .inl (nf g)))]) 0 0 := by
  refine CM_int (own := RX5) (cc := cX5_mostGrains) (maxL := 3) (L0 := [(0, .ref h0)]) (by decide) rfl rfl (Nat.le_of_ble_eq_true rfl) rfl (fun X O E => ?_)
  refine g_iconst (x := (nI 0)) O dX5_mostGrains_0 (by decide +kernel) ?_
  refine g_istore_n (L' := [(0, .ref h0), (1, .int (nI 0))]) O dX5_mostGrains_1 rfl (by decide) [1, 0] rfl ?_
  refine g_iconst (x := (nI 0)) O dX5_mostGrains_2 (by decide +kernel) ?_
  refine g_istore_n (L' := [(0, .ref h0), (1, .int (nI 0)), (2, .int (nI 0))]) O dX5_mostGrains_3 rfl (by decide) [1, 2, 0] rfl ?_
  have J4 : ∀ (n_ : Nat), ∀ (i_ : Nat) (hi_ : i_ ≤ 144), 144 - i_ < n_ → G X 0 0 4 [(0, .ref h0), (1, .int (nI (mxN g i_))), (2, .int (nI i_))] [] [(h0, .inr (5, [.ref h1, .ref h2, .ref h3, .int (nI nc), .ref h4, .ref h5, .int la, .int st, .int sw, .int fl, .int sk, .int mu])), (h1, .inl ((TY D)[0].1, 144, .inl (nf g)))] := by
    intro n_
    induction n_ with
    | zero => intro i_ hi_ hm_; exact absurd hm_ (Nat.not_lt_zero _)
    | succ n_ ih_ =>
      intro i_ hi_ hm_
      refine g_iload_n O dX5_mostGrains_4 2 rfl rfl ?_
      refine g_sipush (x := (nI 144)) O dX5_mostGrains_5 (by decide +kernel) ?_
      refine g_icmp_geN (tgt := 28) O (by omega) (by omega) dX5_mostGrains_8 (by decide) (fun c_1 => ?_) (fun c_1 => ?_)
      ·
        obtain rfl : i_ = 144 := by omega
        refine g_iload_n O dX5_mostGrains_28 1 rfl rfl ?_
        exact E 29 _ (nI (mxN g 144)) _ dX5_mostGrains_29 ⟨rfl, rfl⟩
      ·
        have hgi := hg i_ c_1
        have hmx := mxN_lt (g := g) (b := 1073741824) (n := i_) (by omega) (fun j hj => hg j (by omega))
        refine g_iload_n O dX5_mostGrains_11 1 rfl rfl ?_
        refine g_aload_n O dX5_mostGrains_12 0 rfl rfl ?_
        refine g_get O hiX5_mostGrains_X5 0 rfl rfl 0 (by decide) (by decide +kernel) rfl dX5_mostGrains_13 ?_
        refine g_iload_n O dX5_mostGrains_16 2 rfl rfl ?_
        refine g_ialdN O 1 rfl (by omega) (by omega) dX5_mostGrains_17 ?_
        refine g_max O (by decide +kernel) (by decide +kernel) (by decide +kernel) (by decide +kernel) (by decide) (Nat.le_of_ble_eq_true rfl) (by decide) dX5_mostGrains_18 ?_
        refine g_eq (st' := [.int (nI (max (mxN g i_) (g i_)))]) (by show ([.int (if (nI (mxN g i_)) < (nI (g i_)) then (nI (g i_)) else (nI (mxN g i_)))] : List Value) = _; rw [nI_max (by omega) (by omega)]) rfl rfl ?_
        refine g_istore_n (L' := [(0, .ref h0), (1, .int (nI (max (mxN g i_) (g i_)))), (2, .int (nI i_))]) O dX5_mostGrains_21 rfl (by decide) [1, 0, 2] rfl ?_
        refine g_iincN (L' := [(0, .ref h0), (1, .int (nI (max (mxN g i_) (g i_)))), (2, .int (nI (i_ + 1)))]) O dX5_mostGrains_22 2 rfl (by decide) [1, 2, 0] rfl ?_
        refine g_goto (tgt := 4) O dX5_mostGrains_25 (by decide) ?_
        exact ih_ (i_ + 1) (by first | assumption | omega | rfl) (by omega)
  exact J4 _ 0 (Nat.zero_le _) (Nat.lt_succ_self _)

theorem hiX5_clampOn_X5 : ∀ w ∈ wsX50, w ∈ wsX5_clampOn := by decide +kernel
set_option maxHeartbeats 4000000 in
set_option maxRecDepth 100000 in
/-- the clamp at a place -/
theorem kX5_clampOn (l : Launch) (D : va_G) (z : Nat × Nat × Nat) (h0 : Nat) (h1 : Nat) (h2 : Nat) (h3 : Nat) (h4 : Nat) (h5 : Nat) (nc : Nat) (la : Int32) (st : Int32) (sw : Int32) (fl : Int32) (sk : Int32) (mu : Int32) (cc : Nat → Nat) (cr : Nat → Nat) (x : Nat) (y : Nat) (hnc : nc ≤ 4) (hcc : ∀ j, j < nc → cc j < 12 ∧ cr j < 12) (hx : x < 12) (hy : y < 12) : CM l yX5_clampOn wsX5_clampOn ({ frames := 0, cells := 0, slots := 0, locals := 0 } : Room) D z [.ref h0, .int (nI x), .int (nI y)] [(h0, .inr (5, [.ref h1, .ref h2, .ref h3, .int (nI nc), .ref h4, .ref h5, .int la, .int st, .int sw, .int fl, .int sk, .int mu])), (h2, .inl ((TY D)[0].1, 4, .inl (nf cc))), (h3, .inl ((TY D)[0].1, 4, .inl (nf cr)))] (fun r w => r = some (.int (orM (fdB (fun j => cc j == x && cr j == y) nc))) ∧ w = [(h0, .inr (5, [.ref h1, .ref h2, .ref h3, .int (nI nc), .ref h4, .ref h5, .int la, .int st, .int sw, .int fl, .int sk, .int mu])), (h2, .inl ((TY D)[0].1, 4, .inl (nf cc))), (h3, .inl ((TY D)[0].1, 4, .inl (nf cr)))]) 0 0 := by
  refine CM_int (own := RX5) (cc := cX5_clampOn) (maxL := 4) (L0 := [(0, .ref h0), (1, .int (nI x)), (2, .int (nI y))]) (by decide) rfl rfl (Nat.le_of_ble_eq_true rfl) rfl (fun X O E => ?_)
  refine g_iconst (x := (nI 0)) O dX5_clampOn_0 (by decide +kernel) ?_
  refine g_istore_n (L' := [(0, .ref h0), (1, .int (nI x)), (2, .int (nI y)), (3, .int (nI 0))]) O dX5_clampOn_1 rfl (by decide) [1, 2, 3, 0] rfl ?_
  have J2 : ∀ (n_ : Nat), ∀ (i_ : Nat) (hi_ : i_ ≤ nc) (hno : ∀ j, j < i_ → (fun j => cc j == x && cr j == y) j = false), nc - i_ < n_ → G X 0 0 2 [(0, .ref h0), (1, .int (nI x)), (2, .int (nI y)), (3, .int (nI i_))] [] [(h0, .inr (5, [.ref h1, .ref h2, .ref h3, .int (nI nc), .ref h4, .ref h5, .int la, .int st, .int sw, .int fl, .int sk, .int mu])), (h2, .inl ((TY D)[0].1, 4, .inl (nf cc))), (h3, .inl ((TY D)[0].1, 4, .inl (nf cr)))] := by
    intro n_
    induction n_ with
    | zero => intro i_ hi_ hno hm_; exact absurd hm_ (Nat.not_lt_zero _)
    | succ n_ ih_ =>
      intro i_ hi_ hno hm_
      refine g_iload_n O dX5_clampOn_2 3 rfl rfl ?_
      refine g_aload_n O dX5_clampOn_3 0 rfl rfl ?_
      refine g_get O hiX5_clampOn_X5 0 rfl rfl 3 (by decide) (by decide +kernel) rfl dX5_clampOn_4 ?_
      refine g_icmp_geN (tgt := 38) O (by omega) (by omega) dX5_clampOn_7 (by decide) (fun c_1 => ?_) (fun c_1 => ?_)
      ·
        obtain rfl : nc = i_ := by omega
        refine g_iconst (x := (-1)) O dX5_clampOn_38 (by decide +kernel) ?_
        exact E 39 _ (-1) _ dX5_clampOn_39 (by rw [fdB_none.mpr hno]; exact ⟨rfl, rfl⟩)
      ·
        have hci := hcc i_ c_1
        refine g_aload_n O dX5_clampOn_10 0 rfl rfl ?_
        refine g_get O hiX5_clampOn_X5 0 rfl rfl 1 (by decide) (by decide +kernel) rfl dX5_clampOn_11 ?_
        refine g_iload_n O dX5_clampOn_14 3 rfl rfl ?_
        refine g_ialdN O 1 rfl (by omega) (by omega) dX5_clampOn_15 ?_
        refine g_iload_n O dX5_clampOn_16 1 rfl rfl ?_
        refine g_icmp_neN (tgt := 32) O (by omega) (by omega) dX5_clampOn_17 (by decide) (fun c_2 => ?_) (fun c_2 => ?_)
        ·
          refine g_iincN (L' := [(0, .ref h0), (1, .int (nI x)), (2, .int (nI y)), (3, .int (nI (i_ + 1)))]) O dX5_clampOn_32 3 rfl (by decide) [1, 2, 3, 0] rfl ?_
          refine g_goto (tgt := 2) O dX5_clampOn_35 (by decide) ?_
          exact ih_ (i_ + 1) (by first | assumption | omega | rfl) (fun j hj => by rcases Nat.lt_succ_iff_lt_or_eq.mp hj with h | h; exact hno j h; subst h; simp_all) (by omega)
        ·
          refine g_aload_n O dX5_clampOn_20 0 rfl rfl ?_
          refine g_get O hiX5_clampOn_X5 0 rfl rfl 2 (by decide) (by decide +kernel) rfl dX5_clampOn_21 ?_
          refine g_iload_n O dX5_clampOn_24 3 rfl rfl ?_
          refine g_ialdN O 2 rfl (by omega) (by omega) dX5_clampOn_25 ?_
          refine g_iload_n O dX5_clampOn_26 2 rfl rfl ?_
          refine g_icmp_neN (tgt := 32) O (by omega) (by omega) dX5_clampOn_27 (by decide) (fun c_3 => ?_) (fun c_3 => ?_)
          ·
            refine g_iincN (L' := [(0, .ref h0), (1, .int (nI x)), (2, .int (nI y)), (3, .int (nI (i_ + 1)))]) O dX5_clampOn_32 3 rfl (by decide) [1, 2, 3, 0] rfl ?_
            refine g_goto (tgt := 2) O dX5_clampOn_35 (by decide) ?_
            exact ih_ (i_ + 1) (by first | assumption | omega | rfl) (fun j hj => by rcases Nat.lt_succ_iff_lt_or_eq.mp hj with h | h; exact hno j h; subst h; simp_all) (by omega)
          ·
            refine g_iload_n O dX5_clampOn_30 3 rfl rfl ?_
            exact E 31 _ (nI i_) _ dX5_clampOn_31 (by rw [fdB_some.mpr ⟨by omega, by simp_all, hno⟩]; exact ⟨rfl, rfl⟩)
  exact J2 _ 0 (Nat.zero_le _) (fun j hj => absurd hj (Nat.not_lt_zero _)) (Nat.lt_succ_self _)

theorem hiX5_dropClamp_X5 : ∀ w ∈ wsX50, w ∈ wsX5_dropClamp := by decide +kernel
set_option maxHeartbeats 4000000 in
set_option maxRecDepth 100000 in
/-- a clamp goes -/
theorem kX5_dropClamp (l : Launch) (D : va_G) (z : Nat × Nat × Nat) (h0 : Nat) (h1 : Nat) (h2 : Nat) (h3 : Nat) (h4 : Nat) (h5 : Nat) (nc : Nat) (la : Int32) (st : Int32) (sw : Int32) (fl : Int32) (sk : Int32) (mu : Int32) (cc : Nat → Nat) (cr : Nat → Nat) (d : Nat) (hnc : nc ≤ 4) (hd : d < nc) : CM l yX5_dropClamp wsX5_dropClamp ({ frames := 0, cells := 0, slots := 0, locals := 0 } : Room) D z [.ref h0, .int (nI d)] [(h0, .inr (5, [.ref h1, .ref h2, .ref h3, .int (nI nc), .ref h4, .ref h5, .int la, .int st, .int sw, .int fl, .int sk, .int mu])), (h2, .inl ((TY D)[0].1, 4, .inl (nf cc))), (h3, .inl ((TY D)[0].1, 4, .inl (nf cr)))] (fun r w => r = none ∧ w = [(h0, .inr (5, [.ref h1, .ref h2, .ref h3, .int (nI (nc - 1)), .ref h4, .ref h5, .int la, .int st, .int sw, .int fl, .int sk, .int mu])), (h2, .inl ((TY D)[0].1, 4, .inl (nf (drf cc d (nc - 1 - d))))), (h3, .inl ((TY D)[0].1, 4, .inl (nf (drf cr d (nc - 1 - d)))))]) 0 0 := by
  refine CM_void (own := RX5) (cc := cX5_dropClamp) (maxL := 3) (L0 := [(0, .ref h0), (1, .int (nI d))]) (by decide) rfl rfl (Nat.le_of_ble_eq_true rfl) rfl (fun X O E => ?_)
  refine g_iload_n O dX5_dropClamp_0 1 rfl rfl ?_
  refine g_if_ltN (tgt := 12) O (by omega) dX5_dropClamp_1 (by decide) ?_
  refine g_iload_n O dX5_dropClamp_4 1 rfl rfl ?_
  refine g_aload_n O dX5_dropClamp_5 0 rfl rfl ?_
  refine g_get O hiX5_dropClamp_X5 0 rfl rfl 3 (by decide) (by decide +kernel) rfl dX5_dropClamp_6 ?_
  refine g_icmp_ltN (tgt := 13) O (by omega) (by omega) dX5_dropClamp_9 (by decide) (fun c_2 => ?_) (fun c_2 => (by exfalso; omega))
  refine g_iload_n O dX5_dropClamp_13 1 rfl rfl ?_
  refine g_istore_n (L' := [(0, .ref h0), (1, .int (nI d)), (2, .int (nI d))]) O dX5_dropClamp_14 rfl (by decide) [1, 2, 0] rfl ?_
  have J15 : ∀ (n_ : Nat), ∀ (i_ : Nat) (hi_ : d + i_ ≤ nc - 1), nc - i_ < n_ → G X 0 0 15 [(0, .ref h0), (1, .int (nI d)), (2, .int (nI (d + i_)))] [] [(h0, .inr (5, [.ref h1, .ref h2, .ref h3, .int (nI nc), .ref h4, .ref h5, .int la, .int st, .int sw, .int fl, .int sk, .int mu])), (h2, .inl ((TY D)[0].1, 4, .inl (nf (drf cc d i_)))), (h3, .inl ((TY D)[0].1, 4, .inl (nf (drf cr d i_))))] := by
    intro n_
    induction n_ with
    | zero => intro i_ hi_ hm_; exact absurd hm_ (Nat.not_lt_zero _)
    | succ n_ ih_ =>
      intro i_ hi_ hm_
      refine g_iload_n O dX5_dropClamp_15 2 rfl rfl ?_
      refine g_aload_n O dX5_dropClamp_16 0 rfl rfl ?_
      refine g_get O hiX5_dropClamp_X5 0 rfl rfl 3 (by decide) (by decide +kernel) rfl dX5_dropClamp_17 ?_
      refine g_iconst (x := (nI 1)) O dX5_dropClamp_20 (by decide +kernel) ?_
      refine g_isubN O (by omega) dX5_dropClamp_21 ?_
      refine g_icmp_geN (tgt := 59) O (by omega) (by omega) dX5_dropClamp_22 (by decide) (fun c_3 => ?_) (fun c_3 => ?_)
      ·
        obtain rfl : i_ = nc - 1 - d := by omega
        refine g_aload_n O dX5_dropClamp_59 0 rfl rfl ?_
        refine g_dup O dX5_dropClamp_60 rfl ?_
        refine g_get O hiX5_dropClamp_X5 0 rfl rfl 3 (by decide) (by decide +kernel) rfl dX5_dropClamp_61 ?_
        refine g_iconst (x := (nI 1)) O dX5_dropClamp_64 (by decide +kernel) ?_
        refine g_isubN O (by omega) dX5_dropClamp_65 ?_
        refine g_put (ws' := [(h0, .inr (5, [.ref h1, .ref h2, .ref h3, .int (nI (nc - 1)), .ref h4, .ref h5, .int la, .int st, .int sw, .int fl, .int sk, .int mu])), (h2, .inl ((TY D)[0].1, 4, .inl (nf (drf cc d (nc - 1 - d))))), (h3, .inl ((TY D)[0].1, 4, .inl (nf (drf cr d (nc - 1 - d)))))]) O hiX5_dropClamp_X5 tyX5 tyX5_ok nmX5 0 rfl rfl 3 (by decide) (by decide +kernel) rfl (tyX5_ok 3 (by decide)) rfl rfl (Nat.le_of_ble_eq_true rfl) dX5_dropClamp_66 rfl ?_
        exact E 69 _ _ dX5_dropClamp_69 ⟨rfl, rfl⟩
      ·
        refine g_aload_n O dX5_dropClamp_25 0 rfl rfl ?_
        refine g_get O hiX5_dropClamp_X5 0 rfl rfl 1 (by decide) (by decide +kernel) rfl dX5_dropClamp_26 ?_
        refine g_iload_n O dX5_dropClamp_29 2 rfl rfl ?_
        refine g_aload_n O dX5_dropClamp_30 0 rfl rfl ?_
        refine g_get O hiX5_dropClamp_X5 0 rfl rfl 1 (by decide) (by decide +kernel) rfl dX5_dropClamp_31 ?_
        refine g_iload_n O dX5_dropClamp_34 2 rfl rfl ?_
        refine g_iconst (x := (nI 1)) O dX5_dropClamp_35 (by decide +kernel) ?_
        refine g_iaddN O dX5_dropClamp_36 ?_
        refine g_ialdN O 1 rfl (by omega) (by omega) dX5_dropClamp_37 ?_
        refine g_iastN (f' := (nf (upf (drf cc d i_) (d + i_) ((drf cc d i_) ((d + i_) + 1))))) (ws' := [(h0, .inr (5, [.ref h1, .ref h2, .ref h3, .int (nI nc), .ref h4, .ref h5, .int la, .int st, .int sw, .int fl, .int sk, .int mu])), (h2, .inl ((TY D)[0].1, 4, .inl (nf (upf (drf cc d i_) (d + i_) ((drf cc d i_) ((d + i_) + 1)))))), (h3, .inl ((TY D)[0].1, 4, .inl (nf (drf cr d i_))))]) O 1 rfl (by omega) (by omega) dX5_dropClamp_38 (nf_upd _ _ _) rfl ?_
        refine g_aload_n O dX5_dropClamp_39 0 rfl rfl ?_
        refine g_get O hiX5_dropClamp_X5 0 rfl rfl 2 (by decide) (by decide +kernel) rfl dX5_dropClamp_40 ?_
        refine g_iload_n O dX5_dropClamp_43 2 rfl rfl ?_
        refine g_aload_n O dX5_dropClamp_44 0 rfl rfl ?_
        refine g_get O hiX5_dropClamp_X5 0 rfl rfl 2 (by decide) (by decide +kernel) rfl dX5_dropClamp_45 ?_
        refine g_iload_n O dX5_dropClamp_48 2 rfl rfl ?_
        refine g_iconst (x := (nI 1)) O dX5_dropClamp_49 (by decide +kernel) ?_
        refine g_iaddN O dX5_dropClamp_50 ?_
        refine g_ialdN O 2 rfl (by omega) (by omega) dX5_dropClamp_51 ?_
        refine g_iastN (f' := (nf (upf (drf cr d i_) (d + i_) ((drf cr d i_) ((d + i_) + 1))))) (ws' := [(h0, .inr (5, [.ref h1, .ref h2, .ref h3, .int (nI nc), .ref h4, .ref h5, .int la, .int st, .int sw, .int fl, .int sk, .int mu])), (h2, .inl ((TY D)[0].1, 4, .inl (nf (upf (drf cc d i_) (d + i_) ((drf cc d i_) ((d + i_) + 1)))))), (h3, .inl ((TY D)[0].1, 4, .inl (nf (upf (drf cr d i_) (d + i_) ((drf cr d i_) ((d + i_) + 1))))))]) O 2 rfl (by omega) (by omega) dX5_dropClamp_52 (nf_upd _ _ _) rfl ?_
        refine g_iincN (L' := [(0, .ref h0), (1, .int (nI d)), (2, .int (nI (d + i_ + 1)))]) O dX5_dropClamp_53 2 rfl (by decide) [1, 2, 0] rfl ?_
        refine g_goto (tgt := 15) O dX5_dropClamp_56 (by decide) ?_
        exact ih_ (i_ + 1) (by first | assumption | omega | rfl) (by omega)
  exact J15 _ 0 (by omega) (Nat.lt_succ_self _)

theorem hiX5_copyFrom_X5 : ∀ w ∈ wsX50, w ∈ wsX5_copyFrom := by decide +kernel
set_option maxHeartbeats 4000000 in
set_option maxRecDepth 100000 in
/-- a state like another -/
theorem kX5_copyFrom (l : Launch) (D : va_G) (z : Nat × Nat × Nat) (h0 : Nat) (h1 : Nat) (h2 : Nat) (h3 : Nat) (h4 : Nat) (h5 : Nat) (h6 : Nat) (h7 : Nat) (h8 : Nat) (o0 : Nat) (o1 : Nat) (o2 : Nat) (o3 : Nat) (o4 : Nat) (o5 : Nat) (o6 : Nat) (o7 : Nat) (o8 : Nat) (s : SV) (o : SV) (hps : sv_ps o ≤ 16) : CM l yX5_copyFrom wsX5_copyFrom ({ frames := 3, cells := 0, slots := 0, locals := 66 } : Room) D z [.ref h0, .ref o0] [(h0, .inr (5, [.ref h1, .ref h2, .ref h3, .int (nI (sv_nc s)), .ref h4, .ref h5, .int (sv_la s), .int (sv_st s), .int (sv_sw s), .int (sv_fl s), .int (sv_sk s), .int (sv_mu s)])), (h1, .inl ((TY D)[0].1, 144, .inl (nf (sv_g s)))), (h2, .inl ((TY D)[0].1, 4, .inl (nf (sv_cc s)))), (h3, .inl ((TY D)[0].1, 4, .inl (nf (sv_cr s)))), (h4, .inl ((TY D)[0].1, 4, .inl (sv_se s))), (h5, .inr (4, [.int (nI 16), .ref h6, .ref h7, .ref h8, .int (nI (sv_ps s))])), (h6, .inl ((TY D)[0].1, 16, .inl (nf (sv_fs s)))), (h7, .inl ((TY D)[0].1, 16, .inl (nf (sv_fa s)))), (h8, .inl ((TY D)[0].1, 16, .inl (nf (sv_fk s)))), (o0, .inr (5, [.ref o1, .ref o2, .ref o3, .int (nI (sv_nc o)), .ref o4, .ref o5, .int (sv_la o), .int (sv_st o), .int (sv_sw o), .int (sv_fl o), .int (sv_sk o), .int (sv_mu o)])), (o1, .inl ((TY D)[0].1, 144, .inl (nf (sv_g o)))), (o2, .inl ((TY D)[0].1, 4, .inl (nf (sv_cc o)))), (o3, .inl ((TY D)[0].1, 4, .inl (nf (sv_cr o)))), (o4, .inl ((TY D)[0].1, 4, .inl (sv_se o))), (o5, .inr (4, [.int (nI 16), .ref o6, .ref o7, .ref o8, .int (nI (sv_ps o))])), (o6, .inl ((TY D)[0].1, 16, .inl (nf (sv_fs o)))), (o7, .inl ((TY D)[0].1, 16, .inl (nf (sv_fa o)))), (o8, .inl ((TY D)[0].1, 16, .inl (nf (sv_fk o))))] (fun r w => r = none ∧ w = [(h0, .inr (5, [.ref h1, .ref h2, .ref h3, .int (nI (sv_nc (cpS s o))), .ref h4, .ref h5, .int (sv_la (cpS s o)), .int (sv_st (cpS s o)), .int (sv_sw (cpS s o)), .int (sv_fl (cpS s o)), .int (sv_sk (cpS s o)), .int (sv_mu (cpS s o))])), (h1, .inl ((TY D)[0].1, 144, .inl (nf (sv_g (cpS s o))))), (h2, .inl ((TY D)[0].1, 4, .inl (nf (sv_cc (cpS s o))))), (h3, .inl ((TY D)[0].1, 4, .inl (nf (sv_cr (cpS s o))))), (h4, .inl ((TY D)[0].1, 4, .inl (sv_se (cpS s o)))), (h5, .inr (4, [.int (nI 16), .ref h6, .ref h7, .ref h8, .int (nI (sv_ps (cpS s o)))])), (h6, .inl ((TY D)[0].1, 16, .inl (nf (sv_fs (cpS s o))))), (h7, .inl ((TY D)[0].1, 16, .inl (nf (sv_fa (cpS s o))))), (h8, .inl ((TY D)[0].1, 16, .inl (nf (sv_fk (cpS s o))))), (o0, .inr (5, [.ref o1, .ref o2, .ref o3, .int (nI (sv_nc o)), .ref o4, .ref o5, .int (sv_la o), .int (sv_st o), .int (sv_sw o), .int (sv_fl o), .int (sv_sk o), .int (sv_mu o)])), (o1, .inl ((TY D)[0].1, 144, .inl (nf (sv_g o)))), (o2, .inl ((TY D)[0].1, 4, .inl (nf (sv_cc o)))), (o3, .inl ((TY D)[0].1, 4, .inl (nf (sv_cr o)))), (o4, .inl ((TY D)[0].1, 4, .inl (sv_se o))), (o5, .inr (4, [.int (nI 16), .ref o6, .ref o7, .ref o8, .int (nI (sv_ps o))])), (o6, .inl ((TY D)[0].1, 16, .inl (nf (sv_fs o)))), (o7, .inl ((TY D)[0].1, 16, .inl (nf (sv_fa o)))), (o8, .inl ((TY D)[0].1, 16, .inl (nf (sv_fk o))))]) 0 0 := by
  refine CM_void (own := RX5) (cc := cX5_copyFrom) (maxL := 2) (L0 := [(0, .ref h0), (1, .ref o0)]) (by decide) rfl rfl (Nat.le_of_ble_eq_true rfl) rfl (fun X O E => ?_)
  refine g_aload_n O dX5_copyFrom_0 1 rfl rfl ?_
  refine g_get O hiX5_copyFrom_X5 9 rfl rfl 0 (by decide) (by decide +kernel) rfl dX5_copyFrom_1 ?_
  refine g_iconst (x := (nI 0)) O dX5_copyFrom_4 (by decide +kernel) ?_
  refine g_aload_n O dX5_copyFrom_5 0 rfl rfl ?_
  refine g_get O hiX5_copyFrom_X5 0 rfl rfl 0 (by decide) (by decide +kernel) rfl dX5_copyFrom_6 ?_
  refine g_iconst (x := (nI 0)) O dX5_copyFrom_9 (by decide +kernel) ?_
  refine g_sipush (x := (nI 144)) O dX5_copyFrom_10 (by decide +kernel) ?_
  refine g_copyI (f' := (nf (va_cpy (sv_g o) (sv_g s) 0 0 144))) (ws' := [(h0, .inr (5, [.ref h1, .ref h2, .ref h3, .int (nI (sv_nc s)), .ref h4, .ref h5, .int (sv_la s), .int (sv_st s), .int (sv_sw s), .int (sv_fl s), .int (sv_sk s), .int (sv_mu s)])), (h1, .inl ((TY D)[0].1, 144, .inl (nf (va_cpy (sv_g o) (sv_g s) 0 0 144)))), (h2, .inl ((TY D)[0].1, 4, .inl (nf (sv_cc s)))), (h3, .inl ((TY D)[0].1, 4, .inl (nf (sv_cr s)))), (h4, .inl ((TY D)[0].1, 4, .inl (sv_se s))), (h5, .inr (4, [.int (nI 16), .ref h6, .ref h7, .ref h8, .int (nI (sv_ps s))])), (h6, .inl ((TY D)[0].1, 16, .inl (nf (sv_fs s)))), (h7, .inl ((TY D)[0].1, 16, .inl (nf (sv_fa s)))), (h8, .inl ((TY D)[0].1, 16, .inl (nf (sv_fk s)))), (o0, .inr (5, [.ref o1, .ref o2, .ref o3, .int (nI (sv_nc o)), .ref o4, .ref o5, .int (sv_la o), .int (sv_st o), .int (sv_sw o), .int (sv_fl o), .int (sv_sk o), .int (sv_mu o)])), (o1, .inl ((TY D)[0].1, 144, .inl (nf (sv_g o)))), (o2, .inl ((TY D)[0].1, 4, .inl (nf (sv_cc o)))), (o3, .inl ((TY D)[0].1, 4, .inl (nf (sv_cr o)))), (o4, .inl ((TY D)[0].1, 4, .inl (sv_se o))), (o5, .inr (4, [.int (nI 16), .ref o6, .ref o7, .ref o8, .int (nI (sv_ps o))])), (o6, .inl ((TY D)[0].1, 16, .inl (nf (sv_fs o)))), (o7, .inl ((TY D)[0].1, 16, .inl (nf (sv_fa o)))), (o8, .inl ((TY D)[0].1, 16, .inl (nf (sv_fk o))))]) O 10 1 rfl rfl (by decide +kernel) (by decide +kernel) (by decide +kernel) (by decide +kernel) (by decide +kernel) (by decide +kernel) (by decide +kernel) (by decide +kernel) (by decide +kernel) (by decide) (Nat.le_of_ble_eq_true rfl) dX5_copyFrom_13 (nf_cpy (by decide) (by decide) (by decide)) rfl ?_
  refine g_aload_n O dX5_copyFrom_16 1 rfl rfl ?_
  refine g_get O hiX5_copyFrom_X5 9 rfl rfl 1 (by decide) (by decide +kernel) rfl dX5_copyFrom_17 ?_
  refine g_iconst (x := (nI 0)) O dX5_copyFrom_20 (by decide +kernel) ?_
  refine g_aload_n O dX5_copyFrom_21 0 rfl rfl ?_
  refine g_get O hiX5_copyFrom_X5 0 rfl rfl 1 (by decide) (by decide +kernel) rfl dX5_copyFrom_22 ?_
  refine g_iconst (x := (nI 0)) O dX5_copyFrom_25 (by decide +kernel) ?_
  refine g_iconst (x := (nI 4)) O dX5_copyFrom_26 (by decide +kernel) ?_
  refine g_copyI (f' := (nf (va_cpy (sv_cc o) (sv_cc s) 0 0 4))) (ws' := [(h0, .inr (5, [.ref h1, .ref h2, .ref h3, .int (nI (sv_nc s)), .ref h4, .ref h5, .int (sv_la s), .int (sv_st s), .int (sv_sw s), .int (sv_fl s), .int (sv_sk s), .int (sv_mu s)])), (h1, .inl ((TY D)[0].1, 144, .inl (nf (va_cpy (sv_g o) (sv_g s) 0 0 144)))), (h2, .inl ((TY D)[0].1, 4, .inl (nf (va_cpy (sv_cc o) (sv_cc s) 0 0 4)))), (h3, .inl ((TY D)[0].1, 4, .inl (nf (sv_cr s)))), (h4, .inl ((TY D)[0].1, 4, .inl (sv_se s))), (h5, .inr (4, [.int (nI 16), .ref h6, .ref h7, .ref h8, .int (nI (sv_ps s))])), (h6, .inl ((TY D)[0].1, 16, .inl (nf (sv_fs s)))), (h7, .inl ((TY D)[0].1, 16, .inl (nf (sv_fa s)))), (h8, .inl ((TY D)[0].1, 16, .inl (nf (sv_fk s)))), (o0, .inr (5, [.ref o1, .ref o2, .ref o3, .int (nI (sv_nc o)), .ref o4, .ref o5, .int (sv_la o), .int (sv_st o), .int (sv_sw o), .int (sv_fl o), .int (sv_sk o), .int (sv_mu o)])), (o1, .inl ((TY D)[0].1, 144, .inl (nf (sv_g o)))), (o2, .inl ((TY D)[0].1, 4, .inl (nf (sv_cc o)))), (o3, .inl ((TY D)[0].1, 4, .inl (nf (sv_cr o)))), (o4, .inl ((TY D)[0].1, 4, .inl (sv_se o))), (o5, .inr (4, [.int (nI 16), .ref o6, .ref o7, .ref o8, .int (nI (sv_ps o))])), (o6, .inl ((TY D)[0].1, 16, .inl (nf (sv_fs o)))), (o7, .inl ((TY D)[0].1, 16, .inl (nf (sv_fa o)))), (o8, .inl ((TY D)[0].1, 16, .inl (nf (sv_fk o))))]) O 11 2 rfl rfl (by decide +kernel) (by decide +kernel) (by decide +kernel) (by decide +kernel) (by decide +kernel) (by decide +kernel) (by decide +kernel) (by decide +kernel) (by decide +kernel) (by decide) (Nat.le_of_ble_eq_true rfl) dX5_copyFrom_27 (nf_cpy (by decide) (by decide) (by decide)) rfl ?_
  refine g_aload_n O dX5_copyFrom_30 1 rfl rfl ?_
  refine g_get O hiX5_copyFrom_X5 9 rfl rfl 2 (by decide) (by decide +kernel) rfl dX5_copyFrom_31 ?_
  refine g_iconst (x := (nI 0)) O dX5_copyFrom_34 (by decide +kernel) ?_
  refine g_aload_n O dX5_copyFrom_35 0 rfl rfl ?_
  refine g_get O hiX5_copyFrom_X5 0 rfl rfl 2 (by decide) (by decide +kernel) rfl dX5_copyFrom_36 ?_
  refine g_iconst (x := (nI 0)) O dX5_copyFrom_39 (by decide +kernel) ?_
  refine g_iconst (x := (nI 4)) O dX5_copyFrom_40 (by decide +kernel) ?_
  refine g_copyI (f' := (nf (va_cpy (sv_cr o) (sv_cr s) 0 0 4))) (ws' := [(h0, .inr (5, [.ref h1, .ref h2, .ref h3, .int (nI (sv_nc s)), .ref h4, .ref h5, .int (sv_la s), .int (sv_st s), .int (sv_sw s), .int (sv_fl s), .int (sv_sk s), .int (sv_mu s)])), (h1, .inl ((TY D)[0].1, 144, .inl (nf (va_cpy (sv_g o) (sv_g s) 0 0 144)))), (h2, .inl ((TY D)[0].1, 4, .inl (nf (va_cpy (sv_cc o) (sv_cc s) 0 0 4)))), (h3, .inl ((TY D)[0].1, 4, .inl (nf (va_cpy (sv_cr o) (sv_cr s) 0 0 4)))), (h4, .inl ((TY D)[0].1, 4, .inl (sv_se s))), (h5, .inr (4, [.int (nI 16), .ref h6, .ref h7, .ref h8, .int (nI (sv_ps s))])), (h6, .inl ((TY D)[0].1, 16, .inl (nf (sv_fs s)))), (h7, .inl ((TY D)[0].1, 16, .inl (nf (sv_fa s)))), (h8, .inl ((TY D)[0].1, 16, .inl (nf (sv_fk s)))), (o0, .inr (5, [.ref o1, .ref o2, .ref o3, .int (nI (sv_nc o)), .ref o4, .ref o5, .int (sv_la o), .int (sv_st o), .int (sv_sw o), .int (sv_fl o), .int (sv_sk o), .int (sv_mu o)])), (o1, .inl ((TY D)[0].1, 144, .inl (nf (sv_g o)))), (o2, .inl ((TY D)[0].1, 4, .inl (nf (sv_cc o)))), (o3, .inl ((TY D)[0].1, 4, .inl (nf (sv_cr o)))), (o4, .inl ((TY D)[0].1, 4, .inl (sv_se o))), (o5, .inr (4, [.int (nI 16), .ref o6, .ref o7, .ref o8, .int (nI (sv_ps o))])), (o6, .inl ((TY D)[0].1, 16, .inl (nf (sv_fs o)))), (o7, .inl ((TY D)[0].1, 16, .inl (nf (sv_fa o)))), (o8, .inl ((TY D)[0].1, 16, .inl (nf (sv_fk o))))]) O 12 3 rfl rfl (by decide +kernel) (by decide +kernel) (by decide +kernel) (by decide +kernel) (by decide +kernel) (by decide +kernel) (by decide +kernel) (by decide +kernel) (by decide +kernel) (by decide) (Nat.le_of_ble_eq_true rfl) dX5_copyFrom_41 (nf_cpy (by decide) (by decide) (by decide)) rfl ?_
  refine g_aload_n O dX5_copyFrom_44 0 rfl rfl ?_
  refine g_aload_n O dX5_copyFrom_45 1 rfl rfl ?_
  refine g_get O hiX5_copyFrom_X5 9 rfl rfl 3 (by decide) (by decide +kernel) rfl dX5_copyFrom_46 ?_
  refine g_put (ws' := [(h0, .inr (5, [.ref h1, .ref h2, .ref h3, .int (nI (sv_nc o)), .ref h4, .ref h5, .int (sv_la s), .int (sv_st s), .int (sv_sw s), .int (sv_fl s), .int (sv_sk s), .int (sv_mu s)])), (h1, .inl ((TY D)[0].1, 144, .inl (nf (va_cpy (sv_g o) (sv_g s) 0 0 144)))), (h2, .inl ((TY D)[0].1, 4, .inl (nf (va_cpy (sv_cc o) (sv_cc s) 0 0 4)))), (h3, .inl ((TY D)[0].1, 4, .inl (nf (va_cpy (sv_cr o) (sv_cr s) 0 0 4)))), (h4, .inl ((TY D)[0].1, 4, .inl (sv_se s))), (h5, .inr (4, [.int (nI 16), .ref h6, .ref h7, .ref h8, .int (nI (sv_ps s))])), (h6, .inl ((TY D)[0].1, 16, .inl (nf (sv_fs s)))), (h7, .inl ((TY D)[0].1, 16, .inl (nf (sv_fa s)))), (h8, .inl ((TY D)[0].1, 16, .inl (nf (sv_fk s)))), (o0, .inr (5, [.ref o1, .ref o2, .ref o3, .int (nI (sv_nc o)), .ref o4, .ref o5, .int (sv_la o), .int (sv_st o), .int (sv_sw o), .int (sv_fl o), .int (sv_sk o), .int (sv_mu o)])), (o1, .inl ((TY D)[0].1, 144, .inl (nf (sv_g o)))), (o2, .inl ((TY D)[0].1, 4, .inl (nf (sv_cc o)))), (o3, .inl ((TY D)[0].1, 4, .inl (nf (sv_cr o)))), (o4, .inl ((TY D)[0].1, 4, .inl (sv_se o))), (o5, .inr (4, [.int (nI 16), .ref o6, .ref o7, .ref o8, .int (nI (sv_ps o))])), (o6, .inl ((TY D)[0].1, 16, .inl (nf (sv_fs o)))), (o7, .inl ((TY D)[0].1, 16, .inl (nf (sv_fa o)))), (o8, .inl ((TY D)[0].1, 16, .inl (nf (sv_fk o))))]) O hiX5_copyFrom_X5 tyX5 tyX5_ok nmX5 0 rfl rfl 3 (by decide) (by decide +kernel) rfl (tyX5_ok 3 (by decide)) rfl rfl (Nat.le_of_ble_eq_true rfl) dX5_copyFrom_49 rfl ?_
  refine g_aload_n O dX5_copyFrom_52 1 rfl rfl ?_
  refine g_get O hiX5_copyFrom_X5 9 rfl rfl 4 (by decide) (by decide +kernel) rfl dX5_copyFrom_53 ?_
  refine g_iconst (x := (nI 0)) O dX5_copyFrom_56 (by decide +kernel) ?_
  refine g_aload_n O dX5_copyFrom_57 0 rfl rfl ?_
  refine g_get O hiX5_copyFrom_X5 0 rfl rfl 4 (by decide) (by decide +kernel) rfl dX5_copyFrom_58 ?_
  refine g_iconst (x := (nI 0)) O dX5_copyFrom_61 (by decide +kernel) ?_
  refine g_iconst (x := (nI 4)) O dX5_copyFrom_62 (by decide +kernel) ?_
  refine g_copyI (f' := (va_cpy (sv_se o) (sv_se s) 0 0 4)) (ws' := [(h0, .inr (5, [.ref h1, .ref h2, .ref h3, .int (nI (sv_nc o)), .ref h4, .ref h5, .int (sv_la s), .int (sv_st s), .int (sv_sw s), .int (sv_fl s), .int (sv_sk s), .int (sv_mu s)])), (h1, .inl ((TY D)[0].1, 144, .inl (nf (va_cpy (sv_g o) (sv_g s) 0 0 144)))), (h2, .inl ((TY D)[0].1, 4, .inl (nf (va_cpy (sv_cc o) (sv_cc s) 0 0 4)))), (h3, .inl ((TY D)[0].1, 4, .inl (nf (va_cpy (sv_cr o) (sv_cr s) 0 0 4)))), (h4, .inl ((TY D)[0].1, 4, .inl (va_cpy (sv_se o) (sv_se s) 0 0 4))), (h5, .inr (4, [.int (nI 16), .ref h6, .ref h7, .ref h8, .int (nI (sv_ps s))])), (h6, .inl ((TY D)[0].1, 16, .inl (nf (sv_fs s)))), (h7, .inl ((TY D)[0].1, 16, .inl (nf (sv_fa s)))), (h8, .inl ((TY D)[0].1, 16, .inl (nf (sv_fk s)))), (o0, .inr (5, [.ref o1, .ref o2, .ref o3, .int (nI (sv_nc o)), .ref o4, .ref o5, .int (sv_la o), .int (sv_st o), .int (sv_sw o), .int (sv_fl o), .int (sv_sk o), .int (sv_mu o)])), (o1, .inl ((TY D)[0].1, 144, .inl (nf (sv_g o)))), (o2, .inl ((TY D)[0].1, 4, .inl (nf (sv_cc o)))), (o3, .inl ((TY D)[0].1, 4, .inl (nf (sv_cr o)))), (o4, .inl ((TY D)[0].1, 4, .inl (sv_se o))), (o5, .inr (4, [.int (nI 16), .ref o6, .ref o7, .ref o8, .int (nI (sv_ps o))])), (o6, .inl ((TY D)[0].1, 16, .inl (nf (sv_fs o)))), (o7, .inl ((TY D)[0].1, 16, .inl (nf (sv_fa o)))), (o8, .inl ((TY D)[0].1, 16, .inl (nf (sv_fk o))))]) O 13 4 rfl rfl (by decide +kernel) (by decide +kernel) (by decide +kernel) (by decide +kernel) (by decide +kernel) (by decide +kernel) (by decide +kernel) (by decide +kernel) (by decide +kernel) (by decide) (Nat.le_of_ble_eq_true rfl) dX5_copyFrom_63 (cpy_r (by decide) (by decide) (by decide)) rfl ?_
  refine g_aload_n O dX5_copyFrom_66 0 rfl rfl ?_
  refine g_get O hiX5_copyFrom_X5 0 rfl rfl 5 (by decide) (by decide +kernel) rfl dX5_copyFrom_67 ?_
  refine g_aload_n O dX5_copyFrom_70 1 rfl rfl ?_
  refine g_get O hiX5_copyFrom_X5 9 rfl rfl 5 (by decide) (by decide +kernel) rfl dX5_copyFrom_71 ?_
  refine g_callV (As := [.ref o5]) (wr := [(h0, .inr (5, [.ref h1, .ref h2, .ref h3, .int (nI (sv_nc o)), .ref h4, .ref h5, .int (sv_la s), .int (sv_st s), .int (sv_sw s), .int (sv_fl s), .int (sv_sk s), .int (sv_mu s)])), (h1, .inl ((TY D)[0].1, 144, .inl (nf (va_cpy (sv_g o) (sv_g s) 0 0 144)))), (h2, .inl ((TY D)[0].1, 4, .inl (nf (va_cpy (sv_cc o) (sv_cc s) 0 0 4)))), (h3, .inl ((TY D)[0].1, 4, .inl (nf (va_cpy (sv_cr o) (sv_cr s) 0 0 4)))), (h4, .inl ((TY D)[0].1, 4, .inl (va_cpy (sv_se o) (sv_se s) 0 0 4))), (o0, .inr (5, [.ref o1, .ref o2, .ref o3, .int (nI (sv_nc o)), .ref o4, .ref o5, .int (sv_la o), .int (sv_st o), .int (sv_sw o), .int (sv_fl o), .int (sv_sk o), .int (sv_mu o)])), (o1, .inl ((TY D)[0].1, 144, .inl (nf (sv_g o)))), (o2, .inl ((TY D)[0].1, 4, .inl (nf (sv_cc o)))), (o3, .inl ((TY D)[0].1, 4, .inl (nf (sv_cr o)))), (o4, .inl ((TY D)[0].1, 4, .inl (sv_se o)))]) O (kX4_copyFrom l D z h5 h6 h7 h8 o5 o6 o7 o8 16 (sv_ps s) 16 (sv_ps o) (sv_fs s) (sv_fa s) (sv_fk s) (sv_fs o) (sv_fa o) (sv_fk o) (by first | assumption | omega) (by first | assumption | omega) (by first | assumption | omega) (by first | assumption | omega)) gX5_copyFrom_X4_copyFrom rfl rfl rfl 1 (by decide +kernel) (by decide) (by decide) (q0 := 0) rfl rfl rfl [5, 6, 7, 8, 14, 15, 16, 17] [0, 1, 2, 3, 4, 9, 10, 11, 12, 13] rfl (by decide) rfl (by decide) (by decide) rfl rfl (Nat.le_of_ble_eq_true rfl) dX5_copyFrom_74 (fun r_1 w_2 hp => ?_)
  obtain ⟨rfl, rfl⟩ := hp
  refine g_eq (st' := []) (ws' := [(h0, .inr (5, [.ref h1, .ref h2, .ref h3, .int (nI (sv_nc o)), .ref h4, .ref h5, .int (sv_la s), .int (sv_st s), .int (sv_sw s), .int (sv_fl s), .int (sv_sk s), .int (sv_mu s)])), (h1, .inl ((TY D)[0].1, 144, .inl (nf (va_cpy (sv_g o) (sv_g s) 0 0 144)))), (h2, .inl ((TY D)[0].1, 4, .inl (nf (va_cpy (sv_cc o) (sv_cc s) 0 0 4)))), (h3, .inl ((TY D)[0].1, 4, .inl (nf (va_cpy (sv_cr o) (sv_cr s) 0 0 4)))), (h4, .inl ((TY D)[0].1, 4, .inl (va_cpy (sv_se o) (sv_se s) 0 0 4))), (o0, .inr (5, [.ref o1, .ref o2, .ref o3, .int (nI (sv_nc o)), .ref o4, .ref o5, .int (sv_la o), .int (sv_st o), .int (sv_sw o), .int (sv_fl o), .int (sv_sk o), .int (sv_mu o)])), (o1, .inl ((TY D)[0].1, 144, .inl (nf (sv_g o)))), (o2, .inl ((TY D)[0].1, 4, .inl (nf (sv_cc o)))), (o3, .inl ((TY D)[0].1, 4, .inl (nf (sv_cr o)))), (o4, .inl ((TY D)[0].1, 4, .inl (sv_se o))), (h5, .inr (4, [.int (nI 16), .ref h6, .ref h7, .ref h8, .int (nI (sv_ps o))])), (h6, .inl ((TY D)[0].1, 16, .inl (nf (apf (sv_fs s) (sv_fs o) 0 (sv_ps o))))), (h7, .inl ((TY D)[0].1, 16, .inl (nf (apf (sv_fa s) (sv_fa o) 0 (sv_ps o))))), (h8, .inl ((TY D)[0].1, 16, .inl (nf (apf (sv_fk s) (sv_fk o) 0 (sv_ps o))))), (o5, .inr (4, [.int (nI 16), .ref o6, .ref o7, .ref o8, .int (nI (sv_ps o))])), (o6, .inl ((TY D)[0].1, 16, .inl (nf (sv_fs o)))), (o7, .inl ((TY D)[0].1, 16, .inl (nf (sv_fa o)))), (o8, .inl ((TY D)[0].1, 16, .inl (nf (sv_fk o))))]) rfl rfl rfl ?_
  refine g_aload_n O dX5_copyFrom_77 0 rfl rfl ?_
  refine g_aload_n O dX5_copyFrom_78 1 rfl rfl ?_
  refine g_get O hiX5_copyFrom_X5 5 rfl rfl 6 (by decide) (by decide +kernel) rfl dX5_copyFrom_79 ?_
  refine g_put (ws' := [(h0, .inr (5, [.ref h1, .ref h2, .ref h3, .int (nI (sv_nc o)), .ref h4, .ref h5, .int (sv_la o), .int (sv_st s), .int (sv_sw s), .int (sv_fl s), .int (sv_sk s), .int (sv_mu s)])), (h1, .inl ((TY D)[0].1, 144, .inl (nf (va_cpy (sv_g o) (sv_g s) 0 0 144)))), (h2, .inl ((TY D)[0].1, 4, .inl (nf (va_cpy (sv_cc o) (sv_cc s) 0 0 4)))), (h3, .inl ((TY D)[0].1, 4, .inl (nf (va_cpy (sv_cr o) (sv_cr s) 0 0 4)))), (h4, .inl ((TY D)[0].1, 4, .inl (va_cpy (sv_se o) (sv_se s) 0 0 4))), (o0, .inr (5, [.ref o1, .ref o2, .ref o3, .int (nI (sv_nc o)), .ref o4, .ref o5, .int (sv_la o), .int (sv_st o), .int (sv_sw o), .int (sv_fl o), .int (sv_sk o), .int (sv_mu o)])), (o1, .inl ((TY D)[0].1, 144, .inl (nf (sv_g o)))), (o2, .inl ((TY D)[0].1, 4, .inl (nf (sv_cc o)))), (o3, .inl ((TY D)[0].1, 4, .inl (nf (sv_cr o)))), (o4, .inl ((TY D)[0].1, 4, .inl (sv_se o))), (h5, .inr (4, [.int (nI 16), .ref h6, .ref h7, .ref h8, .int (nI (sv_ps o))])), (h6, .inl ((TY D)[0].1, 16, .inl (nf (apf (sv_fs s) (sv_fs o) 0 (sv_ps o))))), (h7, .inl ((TY D)[0].1, 16, .inl (nf (apf (sv_fa s) (sv_fa o) 0 (sv_ps o))))), (h8, .inl ((TY D)[0].1, 16, .inl (nf (apf (sv_fk s) (sv_fk o) 0 (sv_ps o))))), (o5, .inr (4, [.int (nI 16), .ref o6, .ref o7, .ref o8, .int (nI (sv_ps o))])), (o6, .inl ((TY D)[0].1, 16, .inl (nf (sv_fs o)))), (o7, .inl ((TY D)[0].1, 16, .inl (nf (sv_fa o)))), (o8, .inl ((TY D)[0].1, 16, .inl (nf (sv_fk o))))]) O hiX5_copyFrom_X5 tyX5 tyX5_ok nmX5 0 rfl rfl 6 (by decide) (by decide +kernel) rfl (tyX5_ok 6 (by decide)) rfl rfl (Nat.le_of_ble_eq_true rfl) dX5_copyFrom_82 rfl ?_
  refine g_aload_n O dX5_copyFrom_85 0 rfl rfl ?_
  refine g_aload_n O dX5_copyFrom_86 1 rfl rfl ?_
  refine g_get O hiX5_copyFrom_X5 5 rfl rfl 7 (by decide) (by decide +kernel) rfl dX5_copyFrom_87 ?_
  refine g_put (ws' := [(h0, .inr (5, [.ref h1, .ref h2, .ref h3, .int (nI (sv_nc o)), .ref h4, .ref h5, .int (sv_la o), .int (sv_st o), .int (sv_sw s), .int (sv_fl s), .int (sv_sk s), .int (sv_mu s)])), (h1, .inl ((TY D)[0].1, 144, .inl (nf (va_cpy (sv_g o) (sv_g s) 0 0 144)))), (h2, .inl ((TY D)[0].1, 4, .inl (nf (va_cpy (sv_cc o) (sv_cc s) 0 0 4)))), (h3, .inl ((TY D)[0].1, 4, .inl (nf (va_cpy (sv_cr o) (sv_cr s) 0 0 4)))), (h4, .inl ((TY D)[0].1, 4, .inl (va_cpy (sv_se o) (sv_se s) 0 0 4))), (o0, .inr (5, [.ref o1, .ref o2, .ref o3, .int (nI (sv_nc o)), .ref o4, .ref o5, .int (sv_la o), .int (sv_st o), .int (sv_sw o), .int (sv_fl o), .int (sv_sk o), .int (sv_mu o)])), (o1, .inl ((TY D)[0].1, 144, .inl (nf (sv_g o)))), (o2, .inl ((TY D)[0].1, 4, .inl (nf (sv_cc o)))), (o3, .inl ((TY D)[0].1, 4, .inl (nf (sv_cr o)))), (o4, .inl ((TY D)[0].1, 4, .inl (sv_se o))), (h5, .inr (4, [.int (nI 16), .ref h6, .ref h7, .ref h8, .int (nI (sv_ps o))])), (h6, .inl ((TY D)[0].1, 16, .inl (nf (apf (sv_fs s) (sv_fs o) 0 (sv_ps o))))), (h7, .inl ((TY D)[0].1, 16, .inl (nf (apf (sv_fa s) (sv_fa o) 0 (sv_ps o))))), (h8, .inl ((TY D)[0].1, 16, .inl (nf (apf (sv_fk s) (sv_fk o) 0 (sv_ps o))))), (o5, .inr (4, [.int (nI 16), .ref o6, .ref o7, .ref o8, .int (nI (sv_ps o))])), (o6, .inl ((TY D)[0].1, 16, .inl (nf (sv_fs o)))), (o7, .inl ((TY D)[0].1, 16, .inl (nf (sv_fa o)))), (o8, .inl ((TY D)[0].1, 16, .inl (nf (sv_fk o))))]) O hiX5_copyFrom_X5 tyX5 tyX5_ok nmX5 0 rfl rfl 7 (by decide) (by decide +kernel) rfl (tyX5_ok 7 (by decide)) rfl rfl (Nat.le_of_ble_eq_true rfl) dX5_copyFrom_90 rfl ?_
  refine g_aload_n O dX5_copyFrom_93 0 rfl rfl ?_
  refine g_aload_n O dX5_copyFrom_94 1 rfl rfl ?_
  refine g_get O hiX5_copyFrom_X5 5 rfl rfl 8 (by decide) (by decide +kernel) rfl dX5_copyFrom_95 ?_
  refine g_put (ws' := [(h0, .inr (5, [.ref h1, .ref h2, .ref h3, .int (nI (sv_nc o)), .ref h4, .ref h5, .int (sv_la o), .int (sv_st o), .int (sv_sw o), .int (sv_fl s), .int (sv_sk s), .int (sv_mu s)])), (h1, .inl ((TY D)[0].1, 144, .inl (nf (va_cpy (sv_g o) (sv_g s) 0 0 144)))), (h2, .inl ((TY D)[0].1, 4, .inl (nf (va_cpy (sv_cc o) (sv_cc s) 0 0 4)))), (h3, .inl ((TY D)[0].1, 4, .inl (nf (va_cpy (sv_cr o) (sv_cr s) 0 0 4)))), (h4, .inl ((TY D)[0].1, 4, .inl (va_cpy (sv_se o) (sv_se s) 0 0 4))), (o0, .inr (5, [.ref o1, .ref o2, .ref o3, .int (nI (sv_nc o)), .ref o4, .ref o5, .int (sv_la o), .int (sv_st o), .int (sv_sw o), .int (sv_fl o), .int (sv_sk o), .int (sv_mu o)])), (o1, .inl ((TY D)[0].1, 144, .inl (nf (sv_g o)))), (o2, .inl ((TY D)[0].1, 4, .inl (nf (sv_cc o)))), (o3, .inl ((TY D)[0].1, 4, .inl (nf (sv_cr o)))), (o4, .inl ((TY D)[0].1, 4, .inl (sv_se o))), (h5, .inr (4, [.int (nI 16), .ref h6, .ref h7, .ref h8, .int (nI (sv_ps o))])), (h6, .inl ((TY D)[0].1, 16, .inl (nf (apf (sv_fs s) (sv_fs o) 0 (sv_ps o))))), (h7, .inl ((TY D)[0].1, 16, .inl (nf (apf (sv_fa s) (sv_fa o) 0 (sv_ps o))))), (h8, .inl ((TY D)[0].1, 16, .inl (nf (apf (sv_fk s) (sv_fk o) 0 (sv_ps o))))), (o5, .inr (4, [.int (nI 16), .ref o6, .ref o7, .ref o8, .int (nI (sv_ps o))])), (o6, .inl ((TY D)[0].1, 16, .inl (nf (sv_fs o)))), (o7, .inl ((TY D)[0].1, 16, .inl (nf (sv_fa o)))), (o8, .inl ((TY D)[0].1, 16, .inl (nf (sv_fk o))))]) O hiX5_copyFrom_X5 tyX5 tyX5_ok nmX5 0 rfl rfl 8 (by decide) (by decide +kernel) rfl (tyX5_ok 8 (by decide)) rfl rfl (Nat.le_of_ble_eq_true rfl) dX5_copyFrom_98 rfl ?_
  refine g_aload_n O dX5_copyFrom_101 0 rfl rfl ?_
  refine g_aload_n O dX5_copyFrom_102 1 rfl rfl ?_
  refine g_get O hiX5_copyFrom_X5 5 rfl rfl 9 (by decide) (by decide +kernel) rfl dX5_copyFrom_103 ?_
  refine g_put (ws' := [(h0, .inr (5, [.ref h1, .ref h2, .ref h3, .int (nI (sv_nc o)), .ref h4, .ref h5, .int (sv_la o), .int (sv_st o), .int (sv_sw o), .int (sv_fl o), .int (sv_sk s), .int (sv_mu s)])), (h1, .inl ((TY D)[0].1, 144, .inl (nf (va_cpy (sv_g o) (sv_g s) 0 0 144)))), (h2, .inl ((TY D)[0].1, 4, .inl (nf (va_cpy (sv_cc o) (sv_cc s) 0 0 4)))), (h3, .inl ((TY D)[0].1, 4, .inl (nf (va_cpy (sv_cr o) (sv_cr s) 0 0 4)))), (h4, .inl ((TY D)[0].1, 4, .inl (va_cpy (sv_se o) (sv_se s) 0 0 4))), (o0, .inr (5, [.ref o1, .ref o2, .ref o3, .int (nI (sv_nc o)), .ref o4, .ref o5, .int (sv_la o), .int (sv_st o), .int (sv_sw o), .int (sv_fl o), .int (sv_sk o), .int (sv_mu o)])), (o1, .inl ((TY D)[0].1, 144, .inl (nf (sv_g o)))), (o2, .inl ((TY D)[0].1, 4, .inl (nf (sv_cc o)))), (o3, .inl ((TY D)[0].1, 4, .inl (nf (sv_cr o)))), (o4, .inl ((TY D)[0].1, 4, .inl (sv_se o))), (h5, .inr (4, [.int (nI 16), .ref h6, .ref h7, .ref h8, .int (nI (sv_ps o))])), (h6, .inl ((TY D)[0].1, 16, .inl (nf (apf (sv_fs s) (sv_fs o) 0 (sv_ps o))))), (h7, .inl ((TY D)[0].1, 16, .inl (nf (apf (sv_fa s) (sv_fa o) 0 (sv_ps o))))), (h8, .inl ((TY D)[0].1, 16, .inl (nf (apf (sv_fk s) (sv_fk o) 0 (sv_ps o))))), (o5, .inr (4, [.int (nI 16), .ref o6, .ref o7, .ref o8, .int (nI (sv_ps o))])), (o6, .inl ((TY D)[0].1, 16, .inl (nf (sv_fs o)))), (o7, .inl ((TY D)[0].1, 16, .inl (nf (sv_fa o)))), (o8, .inl ((TY D)[0].1, 16, .inl (nf (sv_fk o))))]) O hiX5_copyFrom_X5 tyX5 tyX5_ok nmX5 0 rfl rfl 9 (by decide) (by decide +kernel) rfl (tyX5_ok 9 (by decide)) rfl rfl (Nat.le_of_ble_eq_true rfl) dX5_copyFrom_106 rfl ?_
  refine g_aload_n O dX5_copyFrom_109 0 rfl rfl ?_
  refine g_aload_n O dX5_copyFrom_110 1 rfl rfl ?_
  refine g_get O hiX5_copyFrom_X5 5 rfl rfl 10 (by decide) (by decide +kernel) rfl dX5_copyFrom_111 ?_
  refine g_put (ws' := [(h0, .inr (5, [.ref h1, .ref h2, .ref h3, .int (nI (sv_nc o)), .ref h4, .ref h5, .int (sv_la o), .int (sv_st o), .int (sv_sw o), .int (sv_fl o), .int (sv_sk o), .int (sv_mu s)])), (h1, .inl ((TY D)[0].1, 144, .inl (nf (va_cpy (sv_g o) (sv_g s) 0 0 144)))), (h2, .inl ((TY D)[0].1, 4, .inl (nf (va_cpy (sv_cc o) (sv_cc s) 0 0 4)))), (h3, .inl ((TY D)[0].1, 4, .inl (nf (va_cpy (sv_cr o) (sv_cr s) 0 0 4)))), (h4, .inl ((TY D)[0].1, 4, .inl (va_cpy (sv_se o) (sv_se s) 0 0 4))), (o0, .inr (5, [.ref o1, .ref o2, .ref o3, .int (nI (sv_nc o)), .ref o4, .ref o5, .int (sv_la o), .int (sv_st o), .int (sv_sw o), .int (sv_fl o), .int (sv_sk o), .int (sv_mu o)])), (o1, .inl ((TY D)[0].1, 144, .inl (nf (sv_g o)))), (o2, .inl ((TY D)[0].1, 4, .inl (nf (sv_cc o)))), (o3, .inl ((TY D)[0].1, 4, .inl (nf (sv_cr o)))), (o4, .inl ((TY D)[0].1, 4, .inl (sv_se o))), (h5, .inr (4, [.int (nI 16), .ref h6, .ref h7, .ref h8, .int (nI (sv_ps o))])), (h6, .inl ((TY D)[0].1, 16, .inl (nf (apf (sv_fs s) (sv_fs o) 0 (sv_ps o))))), (h7, .inl ((TY D)[0].1, 16, .inl (nf (apf (sv_fa s) (sv_fa o) 0 (sv_ps o))))), (h8, .inl ((TY D)[0].1, 16, .inl (nf (apf (sv_fk s) (sv_fk o) 0 (sv_ps o))))), (o5, .inr (4, [.int (nI 16), .ref o6, .ref o7, .ref o8, .int (nI (sv_ps o))])), (o6, .inl ((TY D)[0].1, 16, .inl (nf (sv_fs o)))), (o7, .inl ((TY D)[0].1, 16, .inl (nf (sv_fa o)))), (o8, .inl ((TY D)[0].1, 16, .inl (nf (sv_fk o))))]) O hiX5_copyFrom_X5 tyX5 tyX5_ok nmX5 0 rfl rfl 10 (by decide) (by decide +kernel) rfl (tyX5_ok 10 (by decide)) rfl rfl (Nat.le_of_ble_eq_true rfl) dX5_copyFrom_114 rfl ?_
  refine g_aload_n O dX5_copyFrom_117 0 rfl rfl ?_
  refine g_aload_n O dX5_copyFrom_118 1 rfl rfl ?_
  refine g_get O hiX5_copyFrom_X5 5 rfl rfl 11 (by decide) (by decide +kernel) rfl dX5_copyFrom_119 ?_
  refine g_put (ws' := [(h0, .inr (5, [.ref h1, .ref h2, .ref h3, .int (nI (sv_nc o)), .ref h4, .ref h5, .int (sv_la o), .int (sv_st o), .int (sv_sw o), .int (sv_fl o), .int (sv_sk o), .int (sv_mu o)])), (h1, .inl ((TY D)[0].1, 144, .inl (nf (va_cpy (sv_g o) (sv_g s) 0 0 144)))), (h2, .inl ((TY D)[0].1, 4, .inl (nf (va_cpy (sv_cc o) (sv_cc s) 0 0 4)))), (h3, .inl ((TY D)[0].1, 4, .inl (nf (va_cpy (sv_cr o) (sv_cr s) 0 0 4)))), (h4, .inl ((TY D)[0].1, 4, .inl (va_cpy (sv_se o) (sv_se s) 0 0 4))), (o0, .inr (5, [.ref o1, .ref o2, .ref o3, .int (nI (sv_nc o)), .ref o4, .ref o5, .int (sv_la o), .int (sv_st o), .int (sv_sw o), .int (sv_fl o), .int (sv_sk o), .int (sv_mu o)])), (o1, .inl ((TY D)[0].1, 144, .inl (nf (sv_g o)))), (o2, .inl ((TY D)[0].1, 4, .inl (nf (sv_cc o)))), (o3, .inl ((TY D)[0].1, 4, .inl (nf (sv_cr o)))), (o4, .inl ((TY D)[0].1, 4, .inl (sv_se o))), (h5, .inr (4, [.int (nI 16), .ref h6, .ref h7, .ref h8, .int (nI (sv_ps o))])), (h6, .inl ((TY D)[0].1, 16, .inl (nf (apf (sv_fs s) (sv_fs o) 0 (sv_ps o))))), (h7, .inl ((TY D)[0].1, 16, .inl (nf (apf (sv_fa s) (sv_fa o) 0 (sv_ps o))))), (h8, .inl ((TY D)[0].1, 16, .inl (nf (apf (sv_fk s) (sv_fk o) 0 (sv_ps o))))), (o5, .inr (4, [.int (nI 16), .ref o6, .ref o7, .ref o8, .int (nI (sv_ps o))])), (o6, .inl ((TY D)[0].1, 16, .inl (nf (sv_fs o)))), (o7, .inl ((TY D)[0].1, 16, .inl (nf (sv_fa o)))), (o8, .inl ((TY D)[0].1, 16, .inl (nf (sv_fk o))))]) O hiX5_copyFrom_X5 tyX5 tyX5_ok nmX5 0 rfl rfl 11 (by decide) (by decide +kernel) rfl (tyX5_ok 11 (by decide)) rfl rfl (Nat.le_of_ble_eq_true rfl) dX5_copyFrom_122 rfl ?_
  refine g_perm (ws' := [(h0, .inr (5, [.ref h1, .ref h2, .ref h3, .int (nI (sv_nc o)), .ref h4, .ref h5, .int (sv_la o), .int (sv_st o), .int (sv_sw o), .int (sv_fl o), .int (sv_sk o), .int (sv_mu o)])), (h1, .inl ((TY D)[0].1, 144, .inl (nf (va_cpy (sv_g o) (sv_g s) 0 0 144)))), (h2, .inl ((TY D)[0].1, 4, .inl (nf (va_cpy (sv_cc o) (sv_cc s) 0 0 4)))), (h3, .inl ((TY D)[0].1, 4, .inl (nf (va_cpy (sv_cr o) (sv_cr s) 0 0 4)))), (h4, .inl ((TY D)[0].1, 4, .inl (va_cpy (sv_se o) (sv_se s) 0 0 4))), (h5, .inr (4, [.int (nI 16), .ref h6, .ref h7, .ref h8, .int (nI (sv_ps o))])), (h6, .inl ((TY D)[0].1, 16, .inl (nf (apf (sv_fs s) (sv_fs o) 0 (sv_ps o))))), (h7, .inl ((TY D)[0].1, 16, .inl (nf (apf (sv_fa s) (sv_fa o) 0 (sv_ps o))))), (h8, .inl ((TY D)[0].1, 16, .inl (nf (apf (sv_fk s) (sv_fk o) 0 (sv_ps o))))), (o0, .inr (5, [.ref o1, .ref o2, .ref o3, .int (nI (sv_nc o)), .ref o4, .ref o5, .int (sv_la o), .int (sv_st o), .int (sv_sw o), .int (sv_fl o), .int (sv_sk o), .int (sv_mu o)])), (o1, .inl ((TY D)[0].1, 144, .inl (nf (sv_g o)))), (o2, .inl ((TY D)[0].1, 4, .inl (nf (sv_cc o)))), (o3, .inl ((TY D)[0].1, 4, .inl (nf (sv_cr o)))), (o4, .inl ((TY D)[0].1, 4, .inl (sv_se o))), (o5, .inr (4, [.int (nI 16), .ref o6, .ref o7, .ref o8, .int (nI (sv_ps o))])), (o6, .inl ((TY D)[0].1, 16, .inl (nf (sv_fs o)))), (o7, .inl ((TY D)[0].1, 16, .inl (nf (sv_fa o)))), (o8, .inl ((TY D)[0].1, 16, .inl (nf (sv_fk o))))]) [0, 1, 2, 3, 4, 10, 11, 12, 13, 5, 6, 7, 8, 9, 14, 15, 16, 17] rfl (by decide) ?_
  exact E 125 _ _ dX5_copyFrom_125 ⟨rfl, rfl⟩

def SV0 : SV := mkS (cvf (fun _ => 0) 5 144) (fun _ => 0) (fun _ => 0) 0 (va_cpy zF (nf (fun _ => 0)) 0 0 4) (fun _ => 0) (fun _ => 0) (fun _ => 0) 0 (-1) (nI 720) (nI 0) (nI 0) (nI 0) (nI 0)
theorem hiX5_init_X4 : ∀ w ∈ wsX40, w ∈ wsX5_init := by decide +kernel
theorem hiX5_init_X5 : ∀ w ∈ wsX50, w ∈ wsX5_init := by decide +kernel
set_option maxHeartbeats 4000000 in
set_option maxRecDepth 100000 in
/-- a new state -/
theorem kX5_init (l : Launch) (D : va_G) (z : Nat × Nat × Nat) (h0 : Nat)  : CM l yX5_init wsX5_init ({ frames := 2, cells := 8, slots := 209, locals := 42 } : Room) D z [.ref h0] [(h0, .inr (5, [.null, .null, .null, .int (nI 0), .null, .null, .int (nI 0), .int (nI 0), .int (nI 0), .int (nI 0), .int (nI 0), .int (nI 0)]))] (fun r w => ∃ (q0 : Nat), ∃ (q1 : Nat), ∃ (q2 : Nat), ∃ (q3 : Nat), ∃ (q4 : Nat), ∃ (q5 : Nat), ∃ (q6 : Nat), ∃ (q7 : Nat), r = none ∧ w = [(h0, .inr (5, [.ref q0, .ref q1, .ref q2, .int (nI (sv_nc SV0)), .ref q3, .ref q4, .int (sv_la SV0), .int (sv_st SV0), .int (sv_sw SV0), .int (sv_fl SV0), .int (sv_sk SV0), .int (sv_mu SV0)])), (q0, .inl ((TY D)[0].1, 144, .inl (nf (sv_g SV0)))), (q1, .inl ((TY D)[0].1, 4, .inl (nf (sv_cc SV0)))), (q2, .inl ((TY D)[0].1, 4, .inl (nf (sv_cr SV0)))), (q3, .inl ((TY D)[0].1, 4, .inl (sv_se SV0))), (q4, .inr (4, [.int (nI 16), .ref q5, .ref q6, .ref q7, .int (nI (sv_ps SV0))])), (q5, .inl ((TY D)[0].1, 16, .inl (nf (sv_fs SV0)))), (q6, .inl ((TY D)[0].1, 16, .inl (nf (sv_fa SV0)))), (q7, .inl ((TY D)[0].1, 16, .inl (nf (sv_fk SV0))))]) 8 209 := by
  refine CM_void (own := RX5) (cc := cX5_init) (maxL := 1) (L0 := [(0, .ref h0)]) (by decide) rfl rfl (Nat.le_of_ble_eq_true rfl) rfl (fun X O E => ?_)
  refine g_aload_n O dX5_init_0 0 rfl rfl ?_
  refine g_objInit O (by decide +kernel) (by decide +kernel) (by decide +kernel) (by decide) (Nat.le_of_ble_eq_true rfl) dX5_init_1 ?_
  refine g_aload_n O dX5_init_4 0 rfl rfl ?_
  refine g_sipush (x := (nI 144)) O dX5_init_5 (by decide +kernel) ?_
  refine g_newI (N := 144) O (by decide +kernel) (nI_pos (by decide)) (nI_clamp (by decide)) (by decide) (by decide) (by decide) dX5_init_8 (fun q_1 => ?_)
  refine g_eq (ws' := [(h0, .inr (5, [.null, .null, .null, .int (nI 0), .null, .null, .int (nI 0), .int (nI 0), .int (nI 0), .int (nI 0), .int (nI 0), .int (nI 0)])), (q_1, .inl ((TY D)[0].1, 144, .inl (nf (fun _ => 0))))]) rfl rfl (by rfl) ?_
  refine g_putF (ws' := [(h0, .inr (5, [.ref q_1, .null, .null, .int (nI 0), .null, .null, .int (nI 0), .int (nI 0), .int (nI 0), .int (nI 0), .int (nI 0), .int (nI 0)])), (q_1, .inl ((TY D)[0].1, 144, .inl (nf (fun _ => 0))))]) O hiX5_init_X5 tyX5 tyX5_ok nmX5 0 rfl rfl 0 (by decide) (by decide +kernel) rfl rfl rfl (tyX5_ok 0 (by decide)) rfl rfl (Nat.le_of_ble_eq_true rfl) dX5_init_10 rfl ?_
  refine g_aload_n O dX5_init_13 0 rfl rfl ?_
  refine g_iconst (x := (nI 4)) O dX5_init_14 (by decide +kernel) ?_
  refine g_newI (N := 4) O (by decide +kernel) (nI_pos (by decide)) (nI_clamp (by decide)) (by decide) (by decide) (by decide) dX5_init_15 (fun q_2 => ?_)
  refine g_eq (ws' := [(h0, .inr (5, [.ref q_1, .null, .null, .int (nI 0), .null, .null, .int (nI 0), .int (nI 0), .int (nI 0), .int (nI 0), .int (nI 0), .int (nI 0)])), (q_1, .inl ((TY D)[0].1, 144, .inl (nf (fun _ => 0)))), (q_2, .inl ((TY D)[0].1, 4, .inl (nf (fun _ => 0))))]) rfl rfl (by rfl) ?_
  refine g_putF (ws' := [(h0, .inr (5, [.ref q_1, .ref q_2, .null, .int (nI 0), .null, .null, .int (nI 0), .int (nI 0), .int (nI 0), .int (nI 0), .int (nI 0), .int (nI 0)])), (q_1, .inl ((TY D)[0].1, 144, .inl (nf (fun _ => 0)))), (q_2, .inl ((TY D)[0].1, 4, .inl (nf (fun _ => 0))))]) O hiX5_init_X5 tyX5 tyX5_ok nmX5 0 rfl rfl 1 (by decide) (by decide +kernel) rfl rfl rfl (tyX5_ok 1 (by decide)) rfl rfl (Nat.le_of_ble_eq_true rfl) dX5_init_17 rfl ?_
  refine g_aload_n O dX5_init_20 0 rfl rfl ?_
  refine g_iconst (x := (nI 4)) O dX5_init_21 (by decide +kernel) ?_
  refine g_newI (N := 4) O (by decide +kernel) (nI_pos (by decide)) (nI_clamp (by decide)) (by decide) (by decide) (by decide) dX5_init_22 (fun q_3 => ?_)
  refine g_eq (ws' := [(h0, .inr (5, [.ref q_1, .ref q_2, .null, .int (nI 0), .null, .null, .int (nI 0), .int (nI 0), .int (nI 0), .int (nI 0), .int (nI 0), .int (nI 0)])), (q_1, .inl ((TY D)[0].1, 144, .inl (nf (fun _ => 0)))), (q_2, .inl ((TY D)[0].1, 4, .inl (nf (fun _ => 0)))), (q_3, .inl ((TY D)[0].1, 4, .inl (nf (fun _ => 0))))]) rfl rfl (by rfl) ?_
  refine g_putF (ws' := [(h0, .inr (5, [.ref q_1, .ref q_2, .ref q_3, .int (nI 0), .null, .null, .int (nI 0), .int (nI 0), .int (nI 0), .int (nI 0), .int (nI 0), .int (nI 0)])), (q_1, .inl ((TY D)[0].1, 144, .inl (nf (fun _ => 0)))), (q_2, .inl ((TY D)[0].1, 4, .inl (nf (fun _ => 0)))), (q_3, .inl ((TY D)[0].1, 4, .inl (nf (fun _ => 0))))]) O hiX5_init_X5 tyX5 tyX5_ok nmX5 0 rfl rfl 2 (by decide) (by decide +kernel) rfl rfl rfl (tyX5_ok 2 (by decide)) rfl rfl (Nat.le_of_ble_eq_true rfl) dX5_init_24 rfl ?_
  refine g_aload_n O dX5_init_27 0 rfl rfl ?_
  refine g_iconst (x := (nI 0)) O dX5_init_28 (by decide +kernel) ?_
  refine g_put (ws' := [(h0, .inr (5, [.ref q_1, .ref q_2, .ref q_3, .int (nI 0), .null, .null, .int (nI 0), .int (nI 0), .int (nI 0), .int (nI 0), .int (nI 0), .int (nI 0)])), (q_1, .inl ((TY D)[0].1, 144, .inl (nf (fun _ => 0)))), (q_2, .inl ((TY D)[0].1, 4, .inl (nf (fun _ => 0)))), (q_3, .inl ((TY D)[0].1, 4, .inl (nf (fun _ => 0))))]) O hiX5_init_X5 tyX5 tyX5_ok nmX5 0 rfl rfl 3 (by decide) (by decide +kernel) rfl (tyX5_ok 3 (by decide)) rfl rfl (Nat.le_of_ble_eq_true rfl) dX5_init_29 rfl ?_
  refine g_aload_n O dX5_init_32 0 rfl rfl ?_
  refine g_iconst (x := (nI 4)) O dX5_init_33 (by decide +kernel) ?_
  refine g_newI (N := 4) O (by decide +kernel) (nI_pos (by decide)) (nI_clamp (by decide)) (by decide) (by decide) (by decide) dX5_init_34 (fun q_4 => ?_)
  refine g_eq (ws' := [(h0, .inr (5, [.ref q_1, .ref q_2, .ref q_3, .int (nI 0), .null, .null, .int (nI 0), .int (nI 0), .int (nI 0), .int (nI 0), .int (nI 0), .int (nI 0)])), (q_1, .inl ((TY D)[0].1, 144, .inl (nf (fun _ => 0)))), (q_2, .inl ((TY D)[0].1, 4, .inl (nf (fun _ => 0)))), (q_3, .inl ((TY D)[0].1, 4, .inl (nf (fun _ => 0)))), (q_4, .inl ((TY D)[0].1, 4, .inl (nf (fun _ => 0))))]) rfl rfl (by rfl) ?_
  refine g_putF (ws' := [(h0, .inr (5, [.ref q_1, .ref q_2, .ref q_3, .int (nI 0), .ref q_4, .null, .int (nI 0), .int (nI 0), .int (nI 0), .int (nI 0), .int (nI 0), .int (nI 0)])), (q_1, .inl ((TY D)[0].1, 144, .inl (nf (fun _ => 0)))), (q_2, .inl ((TY D)[0].1, 4, .inl (nf (fun _ => 0)))), (q_3, .inl ((TY D)[0].1, 4, .inl (nf (fun _ => 0)))), (q_4, .inl ((TY D)[0].1, 4, .inl (nf (fun _ => 0))))]) O hiX5_init_X5 tyX5 tyX5_ok nmX5 0 rfl rfl 4 (by decide) (by decide +kernel) rfl rfl rfl (tyX5_ok 4 (by decide)) rfl rfl (Nat.le_of_ble_eq_true rfl) dX5_init_36 rfl ?_
  refine g_aload_n O dX5_init_39 0 rfl rfl ?_
  refine g_new (ci := 4) (fs := [.int 0, .null, .null, .null, .int 0]) O hiX5_init_X4 tyX4 tyX4_ok (by decide +kernel) (by decide +kernel) (by decide +kernel) rfl (fun j hj => by rcases (show j = 0 ∨ j = 1 ∨ j = 2 ∨ j = 3 ∨ j = 4 by omega) with rfl | rfl | rfl | rfl | rfl <;> rfl) (by decide) (by decide) dX5_init_40 (fun q_5 => ?_)
  refine g_eq (ws' := [(h0, .inr (5, [.ref q_1, .ref q_2, .ref q_3, .int (nI 0), .ref q_4, .null, .int (nI 0), .int (nI 0), .int (nI 0), .int (nI 0), .int (nI 0), .int (nI 0)])), (q_1, .inl ((TY D)[0].1, 144, .inl (nf (fun _ => 0)))), (q_2, .inl ((TY D)[0].1, 4, .inl (nf (fun _ => 0)))), (q_3, .inl ((TY D)[0].1, 4, .inl (nf (fun _ => 0)))), (q_4, .inl ((TY D)[0].1, 4, .inl (nf (fun _ => 0)))), (q_5, .inr (4, [.int (nI 0), .null, .null, .null, .int (nI 0)]))]) rfl rfl rfl ?_
  refine g_dup O dX5_init_43 rfl ?_
  refine g_bipush (x := (nI 16)) O dX5_init_44 (by decide +kernel) ?_
  refine g_callI (As := [.int (nI 16)]) (wr := [(h0, .inr (5, [.ref q_1, .ref q_2, .ref q_3, .int (nI 0), .ref q_4, .null, .int (nI 0), .int (nI 0), .int (nI 0), .int (nI 0), .int (nI 0), .int (nI 0)])), (q_1, .inl ((TY D)[0].1, 144, .inl (nf (fun _ => 0)))), (q_2, .inl ((TY D)[0].1, 4, .inl (nf (fun _ => 0)))), (q_3, .inl ((TY D)[0].1, 4, .inl (nf (fun _ => 0)))), (q_4, .inl ((TY D)[0].1, 4, .inl (nf (fun _ => 0))))]) O (kX4_init16 l D z q_5 ) gX5_init_X4_init rfl rfl rfl 1 (by decide +kernel) (by decide) (by decide) (by decide +kernel) (by decide +kernel) (by decide +kernel) rfl [5] [0, 1, 2, 3, 4] rfl (by decide) rfl (by decide) (by decide) rfl rfl (Nat.le_of_ble_eq_true rfl) dX5_init_46 (fun r_6 w_7 hp => ?_)
  obtain ⟨q0_8, q1_9, q2_10, rfl, rfl⟩ := hp
  refine g_eq (st' := [.ref q_5, .ref h0]) (ws' := [(h0, .inr (5, [.ref q_1, .ref q_2, .ref q_3, .int (nI 0), .ref q_4, .null, .int (nI 0), .int (nI 0), .int (nI 0), .int (nI 0), .int (nI 0), .int (nI 0)])), (q_1, .inl ((TY D)[0].1, 144, .inl (nf (fun _ => 0)))), (q_2, .inl ((TY D)[0].1, 4, .inl (nf (fun _ => 0)))), (q_3, .inl ((TY D)[0].1, 4, .inl (nf (fun _ => 0)))), (q_4, .inl ((TY D)[0].1, 4, .inl (nf (fun _ => 0)))), (q_5, .inr (4, [.int (nI 16), .ref q0_8, .ref q1_9, .ref q2_10, .int (nI 0)])), (q0_8, .inl ((TY D)[0].1, 16, .inl (nf (fun _ => 0)))), (q1_9, .inl ((TY D)[0].1, 16, .inl (nf (fun _ => 0)))), (q2_10, .inl ((TY D)[0].1, 16, .inl (nf (fun _ => 0))))]) rfl rfl rfl ?_
  refine g_putF (ws' := [(h0, .inr (5, [.ref q_1, .ref q_2, .ref q_3, .int (nI 0), .ref q_4, .ref q_5, .int (nI 0), .int (nI 0), .int (nI 0), .int (nI 0), .int (nI 0), .int (nI 0)])), (q_1, .inl ((TY D)[0].1, 144, .inl (nf (fun _ => 0)))), (q_2, .inl ((TY D)[0].1, 4, .inl (nf (fun _ => 0)))), (q_3, .inl ((TY D)[0].1, 4, .inl (nf (fun _ => 0)))), (q_4, .inl ((TY D)[0].1, 4, .inl (nf (fun _ => 0)))), (q_5, .inr (4, [.int (nI 16), .ref q0_8, .ref q1_9, .ref q2_10, .int (nI 0)])), (q0_8, .inl ((TY D)[0].1, 16, .inl (nf (fun _ => 0)))), (q1_9, .inl ((TY D)[0].1, 16, .inl (nf (fun _ => 0)))), (q2_10, .inl ((TY D)[0].1, 16, .inl (nf (fun _ => 0))))]) O hiX5_init_X5 tyX5 tyX5_ok nmX5 0 rfl rfl 5 (by decide) (by decide +kernel) rfl rfl rfl (tyX5_ok 5 (by decide)) rfl rfl (Nat.le_of_ble_eq_true rfl) dX5_init_49 rfl ?_
  refine g_aload_n O dX5_init_52 0 rfl rfl ?_
  refine g_iconst (x := (-1)) O dX5_init_53 (by decide +kernel) ?_
  refine g_put (ws' := [(h0, .inr (5, [.ref q_1, .ref q_2, .ref q_3, .int (nI 0), .ref q_4, .ref q_5, .int (-1), .int (nI 0), .int (nI 0), .int (nI 0), .int (nI 0), .int (nI 0)])), (q_1, .inl ((TY D)[0].1, 144, .inl (nf (fun _ => 0)))), (q_2, .inl ((TY D)[0].1, 4, .inl (nf (fun _ => 0)))), (q_3, .inl ((TY D)[0].1, 4, .inl (nf (fun _ => 0)))), (q_4, .inl ((TY D)[0].1, 4, .inl (nf (fun _ => 0)))), (q_5, .inr (4, [.int (nI 16), .ref q0_8, .ref q1_9, .ref q2_10, .int (nI 0)])), (q0_8, .inl ((TY D)[0].1, 16, .inl (nf (fun _ => 0)))), (q1_9, .inl ((TY D)[0].1, 16, .inl (nf (fun _ => 0)))), (q2_10, .inl ((TY D)[0].1, 16, .inl (nf (fun _ => 0))))]) O hiX5_init_X5 tyX5 tyX5_ok nmX5 0 rfl rfl 6 (by decide) (by decide +kernel) rfl (tyX5_ok 6 (by decide)) rfl rfl (Nat.le_of_ble_eq_true rfl) dX5_init_54 rfl ?_
  refine g_aload_n O dX5_init_57 0 rfl rfl ?_
  refine g_sipush (x := (nI 720)) O dX5_init_58 (by decide +kernel) ?_
  refine g_put (ws' := [(h0, .inr (5, [.ref q_1, .ref q_2, .ref q_3, .int (nI 0), .ref q_4, .ref q_5, .int (-1), .int (nI 720), .int (nI 0), .int (nI 0), .int (nI 0), .int (nI 0)])), (q_1, .inl ((TY D)[0].1, 144, .inl (nf (fun _ => 0)))), (q_2, .inl ((TY D)[0].1, 4, .inl (nf (fun _ => 0)))), (q_3, .inl ((TY D)[0].1, 4, .inl (nf (fun _ => 0)))), (q_4, .inl ((TY D)[0].1, 4, .inl (nf (fun _ => 0)))), (q_5, .inr (4, [.int (nI 16), .ref q0_8, .ref q1_9, .ref q2_10, .int (nI 0)])), (q0_8, .inl ((TY D)[0].1, 16, .inl (nf (fun _ => 0)))), (q1_9, .inl ((TY D)[0].1, 16, .inl (nf (fun _ => 0)))), (q2_10, .inl ((TY D)[0].1, 16, .inl (nf (fun _ => 0))))]) O hiX5_init_X5 tyX5 tyX5_ok nmX5 0 rfl rfl 7 (by decide) (by decide +kernel) rfl (tyX5_ok 7 (by decide)) rfl rfl (Nat.le_of_ble_eq_true rfl) dX5_init_61 rfl ?_
  refine g_aload_n O dX5_init_64 0 rfl rfl ?_
  refine g_iconst (x := (nI 0)) O dX5_init_65 (by decide +kernel) ?_
  refine g_put (ws' := [(h0, .inr (5, [.ref q_1, .ref q_2, .ref q_3, .int (nI 0), .ref q_4, .ref q_5, .int (-1), .int (nI 720), .int (nI 0), .int (nI 0), .int (nI 0), .int (nI 0)])), (q_1, .inl ((TY D)[0].1, 144, .inl (nf (fun _ => 0)))), (q_2, .inl ((TY D)[0].1, 4, .inl (nf (fun _ => 0)))), (q_3, .inl ((TY D)[0].1, 4, .inl (nf (fun _ => 0)))), (q_4, .inl ((TY D)[0].1, 4, .inl (nf (fun _ => 0)))), (q_5, .inr (4, [.int (nI 16), .ref q0_8, .ref q1_9, .ref q2_10, .int (nI 0)])), (q0_8, .inl ((TY D)[0].1, 16, .inl (nf (fun _ => 0)))), (q1_9, .inl ((TY D)[0].1, 16, .inl (nf (fun _ => 0)))), (q2_10, .inl ((TY D)[0].1, 16, .inl (nf (fun _ => 0))))]) O hiX5_init_X5 tyX5 tyX5_ok nmX5 0 rfl rfl 8 (by decide) (by decide +kernel) rfl (tyX5_ok 8 (by decide)) rfl rfl (Nat.le_of_ble_eq_true rfl) dX5_init_66 rfl ?_
  refine g_aload_n O dX5_init_69 0 rfl rfl ?_
  refine g_iconst (x := (nI 0)) O dX5_init_70 (by decide +kernel) ?_
  refine g_put (ws' := [(h0, .inr (5, [.ref q_1, .ref q_2, .ref q_3, .int (nI 0), .ref q_4, .ref q_5, .int (-1), .int (nI 720), .int (nI 0), .int (nI 0), .int (nI 0), .int (nI 0)])), (q_1, .inl ((TY D)[0].1, 144, .inl (nf (fun _ => 0)))), (q_2, .inl ((TY D)[0].1, 4, .inl (nf (fun _ => 0)))), (q_3, .inl ((TY D)[0].1, 4, .inl (nf (fun _ => 0)))), (q_4, .inl ((TY D)[0].1, 4, .inl (nf (fun _ => 0)))), (q_5, .inr (4, [.int (nI 16), .ref q0_8, .ref q1_9, .ref q2_10, .int (nI 0)])), (q0_8, .inl ((TY D)[0].1, 16, .inl (nf (fun _ => 0)))), (q1_9, .inl ((TY D)[0].1, 16, .inl (nf (fun _ => 0)))), (q2_10, .inl ((TY D)[0].1, 16, .inl (nf (fun _ => 0))))]) O hiX5_init_X5 tyX5 tyX5_ok nmX5 0 rfl rfl 9 (by decide) (by decide +kernel) rfl (tyX5_ok 9 (by decide)) rfl rfl (Nat.le_of_ble_eq_true rfl) dX5_init_71 rfl ?_
  refine g_aload_n O dX5_init_74 0 rfl rfl ?_
  refine g_iconst (x := (nI 0)) O dX5_init_75 (by decide +kernel) ?_
  refine g_put (ws' := [(h0, .inr (5, [.ref q_1, .ref q_2, .ref q_3, .int (nI 0), .ref q_4, .ref q_5, .int (-1), .int (nI 720), .int (nI 0), .int (nI 0), .int (nI 0), .int (nI 0)])), (q_1, .inl ((TY D)[0].1, 144, .inl (nf (fun _ => 0)))), (q_2, .inl ((TY D)[0].1, 4, .inl (nf (fun _ => 0)))), (q_3, .inl ((TY D)[0].1, 4, .inl (nf (fun _ => 0)))), (q_4, .inl ((TY D)[0].1, 4, .inl (nf (fun _ => 0)))), (q_5, .inr (4, [.int (nI 16), .ref q0_8, .ref q1_9, .ref q2_10, .int (nI 0)])), (q0_8, .inl ((TY D)[0].1, 16, .inl (nf (fun _ => 0)))), (q1_9, .inl ((TY D)[0].1, 16, .inl (nf (fun _ => 0)))), (q2_10, .inl ((TY D)[0].1, 16, .inl (nf (fun _ => 0))))]) O hiX5_init_X5 tyX5 tyX5_ok nmX5 0 rfl rfl 10 (by decide) (by decide +kernel) rfl (tyX5_ok 10 (by decide)) rfl rfl (Nat.le_of_ble_eq_true rfl) dX5_init_76 rfl ?_
  refine g_aload_n O dX5_init_79 0 rfl rfl ?_
  refine g_iconst (x := (nI 0)) O dX5_init_80 (by decide +kernel) ?_
  refine g_put (ws' := [(h0, .inr (5, [.ref q_1, .ref q_2, .ref q_3, .int (nI 0), .ref q_4, .ref q_5, .int (-1), .int (nI 720), .int (nI 0), .int (nI 0), .int (nI 0), .int (nI 0)])), (q_1, .inl ((TY D)[0].1, 144, .inl (nf (fun _ => 0)))), (q_2, .inl ((TY D)[0].1, 4, .inl (nf (fun _ => 0)))), (q_3, .inl ((TY D)[0].1, 4, .inl (nf (fun _ => 0)))), (q_4, .inl ((TY D)[0].1, 4, .inl (nf (fun _ => 0)))), (q_5, .inr (4, [.int (nI 16), .ref q0_8, .ref q1_9, .ref q2_10, .int (nI 0)])), (q0_8, .inl ((TY D)[0].1, 16, .inl (nf (fun _ => 0)))), (q1_9, .inl ((TY D)[0].1, 16, .inl (nf (fun _ => 0)))), (q2_10, .inl ((TY D)[0].1, 16, .inl (nf (fun _ => 0))))]) O hiX5_init_X5 tyX5 tyX5_ok nmX5 0 rfl rfl 11 (by decide) (by decide +kernel) rfl (tyX5_ok 11 (by decide)) rfl rfl (Nat.le_of_ble_eq_true rfl) dX5_init_81 rfl ?_
  refine g_aload_n O dX5_init_84 0 rfl rfl ?_
  refine g_iconst (x := (nI 5)) O dX5_init_85 (by decide +kernel) ?_
  refine g_callV (As := [.int (nI 5)]) (wr := [(q_2, .inl ((TY D)[0].1, 4, .inl (nf (fun _ => 0)))), (q_3, .inl ((TY D)[0].1, 4, .inl (nf (fun _ => 0)))), (q_4, .inl ((TY D)[0].1, 4, .inl (nf (fun _ => 0)))), (q_5, .inr (4, [.int (nI 16), .ref q0_8, .ref q1_9, .ref q2_10, .int (nI 0)])), (q0_8, .inl ((TY D)[0].1, 16, .inl (nf (fun _ => 0)))), (q1_9, .inl ((TY D)[0].1, 16, .inl (nf (fun _ => 0)))), (q2_10, .inl ((TY D)[0].1, 16, .inl (nf (fun _ => 0))))]) O (kX5_coverWith l D z h0 q_1 q_2 q_3 q_4 q_5 0 (-1) (nI 720) (nI 0) (nI 0) (nI 0) (nI 0) (fun _ => 0) 5 ) gX5_init_X5_coverWith rfl rfl rfl 1 (by decide +kernel) (by decide) (by decide) (q0 := 0) rfl rfl rfl [0, 1] [2, 3, 4, 5, 6, 7, 8] rfl (by decide) rfl (by decide) (by decide) rfl rfl (Nat.le_of_ble_eq_true rfl) dX5_init_86 (fun r_11 w_12 hp => ?_)
  obtain ⟨rfl, rfl⟩ := hp
  refine g_eq (st' := []) (ws' := [(q_2, .inl ((TY D)[0].1, 4, .inl (nf (fun _ => 0)))), (q_3, .inl ((TY D)[0].1, 4, .inl (nf (fun _ => 0)))), (q_4, .inl ((TY D)[0].1, 4, .inl (nf (fun _ => 0)))), (q_5, .inr (4, [.int (nI 16), .ref q0_8, .ref q1_9, .ref q2_10, .int (nI 0)])), (q0_8, .inl ((TY D)[0].1, 16, .inl (nf (fun _ => 0)))), (q1_9, .inl ((TY D)[0].1, 16, .inl (nf (fun _ => 0)))), (q2_10, .inl ((TY D)[0].1, 16, .inl (nf (fun _ => 0)))), (h0, .inr (5, [.ref q_1, .ref q_2, .ref q_3, .int (nI 0), .ref q_4, .ref q_5, .int (-1), .int (nI 720), .int (nI 0), .int (nI 0), .int (nI 0), .int (nI 0)])), (q_1, .inl ((TY D)[0].1, 144, .inl (nf (cvf (fun _ => 0) 5 144))))]) rfl rfl rfl ?_
  refine g_getsF O 8 rfl dX5_init_89 ?_
  refine g_iconst (x := (nI 0)) O dX5_init_92 (by decide +kernel) ?_
  refine g_aload_n O dX5_init_93 0 rfl rfl ?_
  refine g_get O hiX5_init_X5 7 rfl rfl 4 (by decide) (by decide +kernel) rfl dX5_init_94 ?_
  refine g_iconst (x := (nI 0)) O dX5_init_97 (by decide +kernel) ?_
  refine g_iconst (x := (nI 4)) O dX5_init_98 (by decide +kernel) ?_
  refine g_copyT (ws' := [(q_2, .inl ((TY D)[0].1, 4, .inl (nf (fun _ => 0)))), (q_3, .inl ((TY D)[0].1, 4, .inl (nf (fun _ => 0)))), (q_4, .inl ((TY D)[0].1, 4, .inl (va_cpy zF (nf (fun _ => 0)) 0 0 4))), (q_5, .inr (4, [.int (nI 16), .ref q0_8, .ref q1_9, .ref q2_10, .int (nI 0)])), (q0_8, .inl ((TY D)[0].1, 16, .inl (nf (fun _ => 0)))), (q1_9, .inl ((TY D)[0].1, 16, .inl (nf (fun _ => 0)))), (q2_10, .inl ((TY D)[0].1, 16, .inl (nf (fun _ => 0)))), (h0, .inr (5, [.ref q_1, .ref q_2, .ref q_3, .int (nI 0), .ref q_4, .ref q_5, .int (-1), .int (nI 720), .int (nI 0), .int (nI 0), .int (nI 0), .int (nI 0)])), (q_1, .inl ((TY D)[0].1, 144, .inl (nf (cvf (fun _ => 0) 5 144))))]) O 2 rfl (by decide +kernel) (by decide +kernel) (by decide +kernel) (by decide +kernel) (by decide) (Nat.le_of_ble_eq_true rfl) dX5_init_99 rfl ?_
  refine g_perm (ws' := [(h0, .inr (5, [.ref q_1, .ref q_2, .ref q_3, .int (nI 0), .ref q_4, .ref q_5, .int (-1), .int (nI 720), .int (nI 0), .int (nI 0), .int (nI 0), .int (nI 0)])), (q_1, .inl ((TY D)[0].1, 144, .inl (nf (cvf (fun _ => 0) 5 144)))), (q_2, .inl ((TY D)[0].1, 4, .inl (nf (fun _ => 0)))), (q_3, .inl ((TY D)[0].1, 4, .inl (nf (fun _ => 0)))), (q_4, .inl ((TY D)[0].1, 4, .inl (va_cpy zF (nf (fun _ => 0)) 0 0 4))), (q_5, .inr (4, [.int (nI 16), .ref q0_8, .ref q1_9, .ref q2_10, .int (nI 0)])), (q0_8, .inl ((TY D)[0].1, 16, .inl (nf (fun _ => 0)))), (q1_9, .inl ((TY D)[0].1, 16, .inl (nf (fun _ => 0)))), (q2_10, .inl ((TY D)[0].1, 16, .inl (nf (fun _ => 0))))]) [7, 8, 0, 1, 2, 3, 4, 5, 6] rfl (by decide) ?_
  exact E 102 _ _ dX5_init_102 (⟨_, _, _, _, _, _, _, _, rfl, rfl⟩)
end
