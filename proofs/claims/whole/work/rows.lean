section
-- ===== PART A: goes FIRST, ahead of the names: the tables' words, and 'selects' of the private methods out of them =====
/-- a private method of a class that the tables say can be made, by its rows of tables_1 -/
def lw_okq (q : MethodName × Nat) : Prop := (q.1.cls ≠ "java/lang/invoke/MethodHandle" ∧ q.1.cls ≠ "java/lang/invoke/VarHandle") ∧ Cond.instantiable q.1.cls q.2 ∈ tables_1 ∧ Cond.privateMethod q.1 ∈ tables_1 ∧ Cond.instanceMethod q.1 ∈ tables_1
theorem lw_p0 : lw_okq (⟨"ColourEcho$Gorge", "hindranceOfDress", "(I)I"⟩, 13) := ⟨⟨by decide +kernel, by decide +kernel⟩, List.mem_of_getElem? (i := 21) (by decide +kernel), List.mem_of_getElem? (i := 297) (by decide +kernel), List.mem_of_getElem? (i := 298) (by decide +kernel)⟩
theorem lw_p1 : lw_okq (⟨"ColourEcho$Days", "noteOver", "(I)V"⟩, 4) := ⟨⟨by decide +kernel, by decide +kernel⟩, List.mem_of_getElem? (i := 104) (by decide +kernel), List.mem_of_getElem? (i := 305) (by decide +kernel), List.mem_of_getElem? (i := 306) (by decide +kernel)⟩
theorem lw_p2 : lw_okq (⟨"ColourEcho$Gorge", "wear", "(I)V"⟩, 13) := ⟨⟨by decide +kernel, by decide +kernel⟩, List.mem_of_getElem? (i := 21) (by decide +kernel), List.mem_of_getElem? (i := 328) (by decide +kernel), List.mem_of_getElem? (i := 329) (by decide +kernel)⟩
theorem lw_p3 : lw_okq (⟨"ColourEcho", "daysCanBe", "()Z"⟩, 11) := ⟨⟨by decide +kernel, by decide +kernel⟩, List.mem_of_getElem? (i := 13) (by decide +kernel), List.mem_of_getElem? (i := 341) (by decide +kernel), List.mem_of_getElem? (i := 342) (by decide +kernel)⟩
theorem lw_p4 : lw_okq (⟨"ColourEcho", "seenWith", "(III)I"⟩, 11) := ⟨⟨by decide +kernel, by decide +kernel⟩, List.mem_of_getElem? (i := 13) (by decide +kernel), List.mem_of_getElem? (i := 369) (by decide +kernel), List.mem_of_getElem? (i := 370) (by decide +kernel)⟩
theorem lw_p5 : lw_okq (⟨"ColourEcho$Course", "offWalls", "(LColourEcho$Gorge;I)I"⟩, 1) := ⟨⟨by decide +kernel, by decide +kernel⟩, List.mem_of_getElem? (i := 129) (by decide +kernel), List.mem_of_getElem? (i := 384) (by decide +kernel), List.mem_of_getElem? (i := 385) (by decide +kernel)⟩
theorem lw_p6 : lw_okq (⟨"ColourEcho", "leastShow", "(III)I"⟩, 11) := ⟨⟨by decide +kernel, by decide +kernel⟩, List.mem_of_getElem? (i := 13) (by decide +kernel), List.mem_of_getElem? (i := 413) (by decide +kernel), List.mem_of_getElem? (i := 414) (by decide +kernel)⟩
theorem lw_p7 : lw_okq (⟨"ColourEcho", "wishDifference", "(III)I"⟩, 11) := ⟨⟨by decide +kernel, by decide +kernel⟩, List.mem_of_getElem? (i := 13) (by decide +kernel), List.mem_of_getElem? (i := 425) (by decide +kernel), List.mem_of_getElem? (i := 426) (by decide +kernel)⟩
theorem lw_p8 : lw_okq (⟨"ColourEcho", "fadesWithout", "(III)Z"⟩, 11) := ⟨⟨by decide +kernel, by decide +kernel⟩, List.mem_of_getElem? (i := 13) (by decide +kernel), List.mem_of_getElem? (i := 447) (by decide +kernel), List.mem_of_getElem? (i := 448) (by decide +kernel)⟩
theorem lw_p9 : lw_okq (⟨"ColourEcho", "fillEchoes", "(I)V"⟩, 11) := ⟨⟨by decide +kernel, by decide +kernel⟩, List.mem_of_getElem? (i := 13) (by decide +kernel), List.mem_of_getElem? (i := 461) (by decide +kernel), List.mem_of_getElem? (i := 462) (by decide +kernel)⟩
theorem lw_p10 : lw_okq (⟨"ColourEcho", "echoAlone", "(II)I"⟩, 11) := ⟨⟨by decide +kernel, by decide +kernel⟩, List.mem_of_getElem? (i := 13) (by decide +kernel), List.mem_of_getElem? (i := 465) (by decide +kernel), List.mem_of_getElem? (i := 466) (by decide +kernel)⟩
theorem lw_p11 : lw_okq (⟨"ColourEcho", "echoAlike", "(II)Z"⟩, 11) := ⟨⟨by decide +kernel, by decide +kernel⟩, List.mem_of_getElem? (i := 13) (by decide +kernel), List.mem_of_getElem? (i := 473) (by decide +kernel), List.mem_of_getElem? (i := 474) (by decide +kernel)⟩
theorem lw_p12 : lw_okq (⟨"ColourEcho$Guesses", "fillEcho", "(LColourEcho$Gorge;LColourEcho$Course;)V"⟩, 4) := ⟨⟨by decide +kernel, by decide +kernel⟩, List.mem_of_getElem? (i := 139) (by decide +kernel), List.mem_of_getElem? (i := 497) (by decide +kernel), List.mem_of_getElem? (i := 498) (by decide +kernel)⟩
theorem lw_p13 : lw_okq (⟨"ColourEcho$Guesses", "fits", "(LColourEcho$Gorge;I)Z"⟩, 4) := ⟨⟨by decide +kernel, by decide +kernel⟩, List.mem_of_getElem? (i := 139) (by decide +kernel), List.mem_of_getElem? (i := 504) (by decide +kernel), List.mem_of_getElem? (i := 505) (by decide +kernel)⟩
theorem lw_p14 : lw_okq (⟨"ColourEcho$Guesses", "seenBy", "(II)I"⟩, 4) := ⟨⟨by decide +kernel, by decide +kernel⟩, List.mem_of_getElem? (i := 139) (by decide +kernel), List.mem_of_getElem? (i := 508) (by decide +kernel), List.mem_of_getElem? (i := 509) (by decide +kernel)⟩
theorem lw_p15 : lw_okq (⟨"ColourEcho$Game", "solveLeft", "(LColourEcho$Gorge;I)V"⟩, 3) := ⟨⟨by decide +kernel, by decide +kernel⟩, List.mem_of_getElem? (i := 160) (by decide +kernel), List.mem_of_getElem? (i := 543) (by decide +kernel), List.mem_of_getElem? (i := 544) (by decide +kernel)⟩
def lw_privs_1 : List (MethodName × Nat) := [(⟨"ColourEcho$Gorge", "hindranceOfDress", "(I)I"⟩, 13), (⟨"ColourEcho$Days", "noteOver", "(I)V"⟩, 4), (⟨"ColourEcho$Gorge", "wear", "(I)V"⟩, 13), (⟨"ColourEcho", "daysCanBe", "()Z"⟩, 11), (⟨"ColourEcho", "seenWith", "(III)I"⟩, 11), (⟨"ColourEcho$Course", "offWalls", "(LColourEcho$Gorge;I)I"⟩, 1), (⟨"ColourEcho", "leastShow", "(III)I"⟩, 11), (⟨"ColourEcho", "wishDifference", "(III)I"⟩, 11), (⟨"ColourEcho", "fadesWithout", "(III)Z"⟩, 11), (⟨"ColourEcho", "fillEchoes", "(I)V"⟩, 11), (⟨"ColourEcho", "echoAlone", "(II)I"⟩, 11), (⟨"ColourEcho", "echoAlike", "(II)Z"⟩, 11), (⟨"ColourEcho$Guesses", "fillEcho", "(LColourEcho$Gorge;LColourEcho$Course;)V"⟩, 4), (⟨"ColourEcho$Guesses", "fits", "(LColourEcho$Gorge;I)Z"⟩, 4), (⟨"ColourEcho$Guesses", "seenBy", "(II)I"⟩, 4), (⟨"ColourEcho$Game", "solveLeft", "(LColourEcho$Gorge;I)V"⟩, 3)]
theorem lw_r1 : ∀ q ∈ lw_privs_1, lw_okq q := List.forall_mem_cons.mpr ⟨lw_p0, List.forall_mem_cons.mpr ⟨lw_p1, List.forall_mem_cons.mpr ⟨lw_p2, List.forall_mem_cons.mpr ⟨lw_p3, List.forall_mem_cons.mpr ⟨lw_p4, List.forall_mem_cons.mpr ⟨lw_p5, List.forall_mem_cons.mpr ⟨lw_p6, List.forall_mem_cons.mpr ⟨lw_p7, List.forall_mem_cons.mpr ⟨lw_p8, List.forall_mem_cons.mpr ⟨lw_p9, List.forall_mem_cons.mpr ⟨lw_p10, List.forall_mem_cons.mpr ⟨lw_p11, List.forall_mem_cons.mpr ⟨lw_p12, List.forall_mem_cons.mpr ⟨lw_p13, List.forall_mem_cons.mpr ⟨lw_p14, List.forall_mem_cons.mpr ⟨lw_p15, fun _ h => absurd h List.not_mem_nil⟩⟩⟩⟩⟩⟩⟩⟩⟩⟩⟩⟩⟩⟩⟩⟩
theorem lw_p16 : lw_okq (⟨"ColourEcho$Game", "loses", "(LColourEcho$Gorge;I)Z"⟩, 3) := ⟨⟨by decide +kernel, by decide +kernel⟩, List.mem_of_getElem? (i := 160) (by decide +kernel), List.mem_of_getElem? (i := 548) (by decide +kernel), List.mem_of_getElem? (i := 549) (by decide +kernel)⟩
theorem lw_p17 : lw_okq (⟨"ColourEcho", "imageOf", "(I)LColourEcho$Gorge;"⟩, 11) := ⟨⟨by decide +kernel, by decide +kernel⟩, List.mem_of_getElem? (i := 13) (by decide +kernel), List.mem_of_getElem? (i := 582) (by decide +kernel), List.mem_of_getElem? (i := 583) (by decide +kernel)⟩
theorem lw_p18 : lw_okq (⟨"ColourEcho", "toldOfToday", "(I)I"⟩, 11) := ⟨⟨by decide +kernel, by decide +kernel⟩, List.mem_of_getElem? (i := 13) (by decide +kernel), List.mem_of_getElem? (i := 594) (by decide +kernel), List.mem_of_getElem? (i := 595) (by decide +kernel)⟩
theorem lw_p19 : lw_okq (⟨"ColourEchoModel", "faultOf", "()I"⟩, 30) := ⟨⟨by decide +kernel, by decide +kernel⟩, List.mem_of_getElem? (i := 598) (by decide +kernel), List.mem_of_getElem? (i := 722) (by decide +kernel), List.mem_of_getElem? (i := 723) (by decide +kernel)⟩
theorem lw_p20 : lw_okq (⟨"ColourEchoModel", "goDays", "()I"⟩, 30) := ⟨⟨by decide +kernel, by decide +kernel⟩, List.mem_of_getElem? (i := 598) (by decide +kernel), List.mem_of_getElem? (i := 733) (by decide +kernel), List.mem_of_getElem? (i := 734) (by decide +kernel)⟩
theorem lw_p21 : lw_okq (⟨"ColourEchoModel", "asNow", "()V"⟩, 30) := ⟨⟨by decide +kernel, by decide +kernel⟩, List.mem_of_getElem? (i := 598) (by decide +kernel), List.mem_of_getElem? (i := 737) (by decide +kernel), List.mem_of_getElem? (i := 738) (by decide +kernel)⟩
theorem lw_p22 : lw_okq (⟨"ColourEchoModel", "note", "()V"⟩, 30) := ⟨⟨by decide +kernel, by decide +kernel⟩, List.mem_of_getElem? (i := 598) (by decide +kernel), List.mem_of_getElem? (i := 741) (by decide +kernel), List.mem_of_getElem? (i := 742) (by decide +kernel)⟩
theorem lw_p23 : lw_okq (⟨"ColourEchoModel", "isOver", "()Z"⟩, 30) := ⟨⟨by decide +kernel, by decide +kernel⟩, List.mem_of_getElem? (i := 598) (by decide +kernel), List.mem_of_getElem? (i := 745) (by decide +kernel), List.mem_of_getElem? (i := 746) (by decide +kernel)⟩
theorem lw_p24 : lw_okq (⟨"ColourEchoModel", "see", "(I)I"⟩, 30) := ⟨⟨by decide +kernel, by decide +kernel⟩, List.mem_of_getElem? (i := 598) (by decide +kernel), List.mem_of_getElem? (i := 749) (by decide +kernel), List.mem_of_getElem? (i := 750) (by decide +kernel)⟩
theorem lw_p25 : lw_okq (⟨"ColourEchoModel", "pass", "()V"⟩, 30) := ⟨⟨by decide +kernel, by decide +kernel⟩, List.mem_of_getElem? (i := 598) (by decide +kernel), List.mem_of_getElem? (i := 753) (by decide +kernel), List.mem_of_getElem? (i := 754) (by decide +kernel)⟩
theorem lw_p26 : lw_okq (⟨"ColourEchoModel", "whyNotWear", "(I)I"⟩, 30) := ⟨⟨by decide +kernel, by decide +kernel⟩, List.mem_of_getElem? (i := 598) (by decide +kernel), List.mem_of_getElem? (i := 757) (by decide +kernel), List.mem_of_getElem? (i := 758) (by decide +kernel)⟩
theorem lw_p27 : lw_okq (⟨"ColourEchoModel", "wear", "(I)V"⟩, 30) := ⟨⟨by decide +kernel, by decide +kernel⟩, List.mem_of_getElem? (i := 598) (by decide +kernel), List.mem_of_getElem? (i := 764) (by decide +kernel), List.mem_of_getElem? (i := 765) (by decide +kernel)⟩
theorem lw_p28 : lw_okq (⟨"ColourEchoModel", "barOfDays", "()I"⟩, 30) := ⟨⟨by decide +kernel, by decide +kernel⟩, List.mem_of_getElem? (i := 598) (by decide +kernel), List.mem_of_getElem? (i := 772) (by decide +kernel), List.mem_of_getElem? (i := 773) (by decide +kernel)⟩
theorem lw_p29 : lw_okq (⟨"ColourEchoModel", "waits", "(I)V"⟩, 30) := ⟨⟨by decide +kernel, by decide +kernel⟩, List.mem_of_getElem? (i := 598) (by decide +kernel), List.mem_of_getElem? (i := 795) (by decide +kernel), List.mem_of_getElem? (i := 796) (by decide +kernel)⟩
theorem lw_p30 : lw_okq (⟨"ColourEchoModel", "seeAll", "()I"⟩, 30) := ⟨⟨by decide +kernel, by decide +kernel⟩, List.mem_of_getElem? (i := 598) (by decide +kernel), List.mem_of_getElem? (i := 803) (by decide +kernel), List.mem_of_getElem? (i := 804) (by decide +kernel)⟩
theorem lw_p31 : lw_okq (⟨"ColourEchoModel", "empty", "()V"⟩, 30) := ⟨⟨by decide +kernel, by decide +kernel⟩, List.mem_of_getElem? (i := 598) (by decide +kernel), List.mem_of_getElem? (i := 835) (by decide +kernel), List.mem_of_getElem? (i := 836) (by decide +kernel)⟩
def lw_privs_2 : List (MethodName × Nat) := [(⟨"ColourEcho$Game", "loses", "(LColourEcho$Gorge;I)Z"⟩, 3), (⟨"ColourEcho", "imageOf", "(I)LColourEcho$Gorge;"⟩, 11), (⟨"ColourEcho", "toldOfToday", "(I)I"⟩, 11), (⟨"ColourEchoModel", "faultOf", "()I"⟩, 30), (⟨"ColourEchoModel", "goDays", "()I"⟩, 30), (⟨"ColourEchoModel", "asNow", "()V"⟩, 30), (⟨"ColourEchoModel", "note", "()V"⟩, 30), (⟨"ColourEchoModel", "isOver", "()Z"⟩, 30), (⟨"ColourEchoModel", "see", "(I)I"⟩, 30), (⟨"ColourEchoModel", "pass", "()V"⟩, 30), (⟨"ColourEchoModel", "whyNotWear", "(I)I"⟩, 30), (⟨"ColourEchoModel", "wear", "(I)V"⟩, 30), (⟨"ColourEchoModel", "barOfDays", "()I"⟩, 30), (⟨"ColourEchoModel", "waits", "(I)V"⟩, 30), (⟨"ColourEchoModel", "seeAll", "()I"⟩, 30), (⟨"ColourEchoModel", "empty", "()V"⟩, 30)]
theorem lw_r2 : ∀ q ∈ lw_privs_2, lw_okq q := List.forall_mem_cons.mpr ⟨lw_p16, List.forall_mem_cons.mpr ⟨lw_p17, List.forall_mem_cons.mpr ⟨lw_p18, List.forall_mem_cons.mpr ⟨lw_p19, List.forall_mem_cons.mpr ⟨lw_p20, List.forall_mem_cons.mpr ⟨lw_p21, List.forall_mem_cons.mpr ⟨lw_p22, List.forall_mem_cons.mpr ⟨lw_p23, List.forall_mem_cons.mpr ⟨lw_p24, List.forall_mem_cons.mpr ⟨lw_p25, List.forall_mem_cons.mpr ⟨lw_p26, List.forall_mem_cons.mpr ⟨lw_p27, List.forall_mem_cons.mpr ⟨lw_p28, List.forall_mem_cons.mpr ⟨lw_p29, List.forall_mem_cons.mpr ⟨lw_p30, List.forall_mem_cons.mpr ⟨lw_p31, fun _ h => absurd h List.not_mem_nil⟩⟩⟩⟩⟩⟩⟩⟩⟩⟩⟩⟩⟩⟩⟩⟩
theorem lw_p32 : lw_okq (⟨"ColourEchoModel", "allBehind", "(III)I"⟩, 30) := ⟨⟨by decide +kernel, by decide +kernel⟩, List.mem_of_getElem? (i := 598) (by decide +kernel), List.mem_of_getElem? (i := 843) (by decide +kernel), List.mem_of_getElem? (i := 844) (by decide +kernel)⟩
theorem lw_p33 : lw_okq (⟨"ColourEchoModel", "layShown", "()V"⟩, 30) := ⟨⟨by decide +kernel, by decide +kernel⟩, List.mem_of_getElem? (i := 598) (by decide +kernel), List.mem_of_getElem? (i := 859) (by decide +kernel), List.mem_of_getElem? (i := 860) (by decide +kernel)⟩
theorem lw_p34 : lw_okq (⟨"ColourEchoModel", "fits", "(II)Z"⟩, 30) := ⟨⟨by decide +kernel, by decide +kernel⟩, List.mem_of_getElem? (i := 598) (by decide +kernel), List.mem_of_getElem? (i := 863) (by decide +kernel), List.mem_of_getElem? (i := 864) (by decide +kernel)⟩
theorem lw_p35 : lw_okq (⟨"ColourEchoModel", "seenOn", "(III)I"⟩, 30) := ⟨⟨by decide +kernel, by decide +kernel⟩, List.mem_of_getElem? (i := 598) (by decide +kernel), List.mem_of_getElem? (i := 867) (by decide +kernel), List.mem_of_getElem? (i := 868) (by decide +kernel)⟩
theorem lw_p36 : lw_okq (⟨"ColourEchoModel", "isOverBy", "(I)Z"⟩, 30) := ⟨⟨by decide +kernel, by decide +kernel⟩, List.mem_of_getElem? (i := 598) (by decide +kernel), List.mem_of_getElem? (i := 885) (by decide +kernel), List.mem_of_getElem? (i := 886) (by decide +kernel)⟩
def lw_privs_3 : List (MethodName × Nat) := [(⟨"ColourEchoModel", "allBehind", "(III)I"⟩, 30), (⟨"ColourEchoModel", "layShown", "()V"⟩, 30), (⟨"ColourEchoModel", "fits", "(II)Z"⟩, 30), (⟨"ColourEchoModel", "seenOn", "(III)I"⟩, 30), (⟨"ColourEchoModel", "isOverBy", "(I)Z"⟩, 30)]
theorem lw_r3 : ∀ q ∈ lw_privs_3, lw_okq q := List.forall_mem_cons.mpr ⟨lw_p32, List.forall_mem_cons.mpr ⟨lw_p33, List.forall_mem_cons.mpr ⟨lw_p34, List.forall_mem_cons.mpr ⟨lw_p35, List.forall_mem_cons.mpr ⟨lw_p36, fun _ h => absurd h List.not_mem_nil⟩⟩⟩⟩⟩
def lw_privs : List (MethodName × Nat) := lw_privs_1 ++ (lw_privs_2 ++ (lw_privs_3))
def lw_tbl : List Cond := k2_sels lw_privs ++ tables_1
theorem lw_privs_ok : ∀ q ∈ lw_privs, lw_okq q := by
  show ∀ q ∈ lw_privs_1 ++ (lw_privs_2 ++ (lw_privs_3)), lw_okq q
  exact List.forall_mem_append.mpr ⟨lw_r1, List.forall_mem_append.mpr ⟨lw_r2, lw_r3⟩⟩
end
section
/-! ===== BEGIN words of one list among another's, by their places ===== -/
theorem goodIn_r {big : List Cond} (ws : List Cond) (ps : List Nat) (hp : ws = ps.filterMap (fun i => big[i]?)) (h : ws.all goodWord = true) : GoodIn big ws := by
  intro w hw
  have h1 := List.all_eq_true.mp h w hw
  rw [hp] at hw
  obtain ⟨i, -, hi⟩ := List.mem_filterMap.mp hw
  have hm : w ∈ big := by first | exact List.mem_of_getElem? hi | exact List.getElem?_mem hi
  exact ⟨hm, good_of_word h1⟩
theorem goodIn_app {big a b : List Cond} (ha : GoodIn big a) (hb : GoodIn big b) : GoodIn big (a ++ b) := fun w h => (List.mem_append.mp h).elim (ha w) (hb w)
theorem goodIn_ca {big a b : List Cond} {c : Cond} (ha : GoodIn big (c :: a)) (hb : GoodIn big b) : GoodIn big (c :: (a ++ b)) := fun w h => (List.mem_cons.mp h).elim (fun e => ha w (List.mem_cons.mpr (Or.inl e))) (fun h => (List.mem_append.mp h).elim (fun h => ha w (List.mem_cons.mpr (Or.inr h))) (hb w))
theorem goodIn_sub {big ws : List Cond} (hm : ∀ w ∈ ws, w ∈ big) (h : ws.all goodWord = true) : GoodIn big ws := fun w hw => ⟨hm w hw, good_of_word (List.all_eq_true.mp h w hw)⟩
/-! ===== END ===== -/

/-! ===== BEGIN printed: names, fields, word lists, decode rows ===== -/
def RX0 : String := "ColourEcho$Course"
def TX0 : u_T := fun k => match k with
  | _ => ("ColourEcho$Course", "row", "[I", true)
def tyX0 : Nat → FieldType := fun k => match k with
  | _ => .array .int
abbrev wsX00 : List Cond := u_ws RX0 TX0 1
theorem nmX0 : ∀ a, a < 1 → ∀ b, b < 1 → a ≠ b → (TX0 a).2.1 ≠ (TX0 b).2.1 := by decide +kernel
theorem tyX0_ok : ∀ k, k < 1 → parseFieldDescriptor (TX0 k).2.2.1 = some (tyX0 k) := by decide +kernel
abbrev cX0_init : ByteArray := prog_2_method_1_code
def yX0_init : MethodName := ⟨RX0, "<init>", "()V"⟩
abbrev cX0_fromNow : ByteArray := prog_2_method_2_code
def yX0_fromNow : MethodName := ⟨RX0, "fromNow", "(LColourEcho$Gorge;II)V"⟩
abbrev cX0_fromNothing : ByteArray := prog_2_method_3_code
def yX0_fromNothing : MethodName := ⟨RX0, "fromNothing", "(I)V"⟩
abbrev cX0_run : ByteArray := prog_2_method_4_code
def yX0_run : MethodName := ⟨RX0, "run", "(LColourEcho$Gorge;II)V"⟩
abbrev cX0_offWalls : ByteArray := prog_2_method_5_code
def yX0_offWalls : MethodName := ⟨RX0, "offWalls", "(LColourEcho$Gorge;I)I"⟩
abbrev cX0_at : ByteArray := prog_2_method_6_code
def yX0_at : MethodName := ⟨RX0, "at", "(I)I"⟩
abbrev cX0_mostFrom : ByteArray := prog_2_method_7_code
def yX0_mostFrom : MethodName := ⟨RX0, "mostFrom", "(I)I"⟩
abbrev cX0_lastSeen : ByteArray := prog_2_method_8_code
def yX0_lastSeen : MethodName := ⟨RX0, "lastSeen", "()I"⟩
def RX1 : String := "ColourEcho$Days"
def TX1 : u_T := fun k => match k with
  | 0 => ("ColourEcho$Days", "end", "LColourEcho$Gorge;", true)
  | 1 => ("ColourEcho$Days", "acts", "I", false)
  | 2 => ("ColourEcho$Days", "reason", "I", false)
  | _ => ("ColourEcho$Days", "firstOver", "I", false)
def tyX1 : Nat → FieldType := fun k => match k with
  | 0 => .object "ColourEcho$Gorge"
  | 1 => .int
  | 2 => .int
  | _ => .int
abbrev wsX10 : List Cond := u_ws RX1 TX1 4
theorem nmX1 : ∀ a, a < 4 → ∀ b, b < 4 → a ≠ b → (TX1 a).2.1 ≠ (TX1 b).2.1 := by decide +kernel
theorem tyX1_ok : ∀ k, k < 4 → parseFieldDescriptor (TX1 k).2.2.1 = some (tyX1 k) := by decide +kernel
abbrev cX1_init : ByteArray := prog_3_method_1_code
def yX1_init : MethodName := ⟨RX1, "<init>", "()V"⟩
abbrev cX1_play : ByteArray := prog_3_method_2_code
def yX1_play : MethodName := ⟨RX1, "play", "(LColourEcho$Gorge;LColourEcho$Pad;)V"⟩
abbrev cX1_noteOver : ByteArray := prog_3_method_3_code
def yX1_noteOver : MethodName := ⟨RX1, "noteOver", "(I)V"⟩
def RX2 : String := "ColourEcho$Game"
def TX2 : u_T := fun k => match k with
  | 0 => ("ColourEcho$Game", "best", "[I", true)
  | 1 => ("ColourEcho$Game", "choice", "[I", true)
  | _ => ("ColourEcho$Game", "whole", "I", false)
def tyX2 : Nat → FieldType := fun k => match k with
  | 0 => .array .int
  | 1 => .array .int
  | _ => .int
abbrev wsX20 : List Cond := u_ws RX2 TX2 3
theorem nmX2 : ∀ a, a < 3 → ∀ b, b < 3 → a ≠ b → (TX2 a).2.1 ≠ (TX2 b).2.1 := by decide +kernel
theorem tyX2_ok : ∀ k, k < 3 → parseFieldDescriptor (TX2 k).2.2.1 = some (tyX2 k) := by decide +kernel
abbrev cX2_init : ByteArray := prog_4_method_1_code
def yX2_init : MethodName := ⟨RX2, "<init>", "()V"⟩
abbrev cX2_solve : ByteArray := prog_4_method_2_code
def yX2_solve : MethodName := ⟨RX2, "solve", "(LColourEcho$Gorge;I)V"⟩
abbrev cX2_solveLeft : ByteArray := prog_4_method_3_code
def yX2_solveLeft : MethodName := ⟨RX2, "solveLeft", "(LColourEcho$Gorge;I)V"⟩
abbrev cX2_loses : ByteArray := prog_4_method_4_code
def yX2_loses : MethodName := ⟨RX2, "loses", "(LColourEcho$Gorge;I)Z"⟩
abbrev cX2_winner : ByteArray := prog_4_method_5_code
def yX2_winner : MethodName := ⟨RX2, "winner", "()I"⟩
abbrev cX2_opening : ByteArray := prog_4_method_6_code
def yX2_opening : MethodName := ⟨RX2, "opening", "()I"⟩
def RX3 : String := "ColourEcho$Gorge"
def TX3 : u_T := fun k => match k with
  | 0 => ("ColourEcho$Gorge", "off", "[I", true)
  | 1 => ("ColourEcho$Gorge", "keeps", "[I", true)
  | 2 => ("ColourEcho$Gorge", "dresses", "[I", true)
  | 3 => ("ColourEcho$Gorge", "past", "[I", true)
  | 4 => ("ColourEcho$Gorge", "today", "[I", true)
  | 5 => ("ColourEcho$Gorge", "sightDays", "[I", true)
  | 6 => ("ColourEcho$Gorge", "sightAmounts", "[I", true)
  | 7 => ("ColourEcho$Gorge", "sights", "I", false)
  | 8 => ("ColourEcho$Gorge", "most", "I", false)
  | 9 => ("ColourEcho$Gorge", "day", "I", false)
  | 10 => ("ColourEcho$Gorge", "worn", "I", false)
  | 11 => ("ColourEcho$Gorge", "fog", "Z", false)
  | _ => ("ColourEcho$Gorge", "snow", "Z", false)
def tyX3 : Nat → FieldType := fun k => match k with
  | 0 => .array .int
  | 1 => .array .int
  | 2 => .array .int
  | 3 => .array .int
  | 4 => .array .int
  | 5 => .array .int
  | 6 => .array .int
  | 7 => .int
  | 8 => .int
  | 9 => .int
  | 10 => .int
  | 11 => .boolean
  | _ => .boolean
abbrev wsX30 : List Cond := u_ws RX3 TX3 13
theorem nmX3 : ∀ a, a < 13 → ∀ b, b < 13 → a ≠ b → (TX3 a).2.1 ≠ (TX3 b).2.1 := by decide +kernel
theorem tyX3_ok : ∀ k, k < 13 → parseFieldDescriptor (TX3 k).2.2.1 = some (tyX3 k) := by decide +kernel
abbrev cX3_init : ByteArray := prog_5_method_1_code
def yX3_init : MethodName := ⟨RX3, "<init>", "()V"⟩
abbrev cX3_become : ByteArray := prog_5_method_2_code
def yX3_become : MethodName := ⟨RX3, "become", "(LColourEcho$Gorge;)V"⟩
abbrev cX3_worth : ByteArray := prog_5_method_3_code
def yX3_worth : MethodName := ⟨RX3, "worth", "(II)I"⟩
abbrev cX3_worthOfSet : ByteArray := prog_5_method_4_code
def yX3_worthOfSet : MethodName := ⟨RX3, "worthOfSet", "(II)I"⟩
abbrev cX3_seenAgo : ByteArray := prog_5_method_5_code
def yX3_seenAgo : MethodName := ⟨RX3, "seenAgo", "(II)I"⟩
abbrev cX3_seenToday : ByteArray := prog_5_method_6_code
def yX3_seenToday : MethodName := ⟨RX3, "seenToday", "(II)I"⟩
abbrev cX3_mostSeen : ByteArray := prog_5_method_7_code
def yX3_mostSeen : MethodName := ⟨RX3, "mostSeen", "()I"⟩
abbrev cX3_isOver : ByteArray := prog_5_method_8_code
def yX3_isOver : MethodName := ⟨RX3, "isOver", "()Z"⟩
abbrev cX3_endDay : ByteArray := prog_5_method_9_code
def yX3_endDay : MethodName := ⟨RX3, "endDay", "()V"⟩
abbrev cX3_draw : ByteArray := prog_5_method_10_code
def yX3_draw : MethodName := ⟨RX3, "draw", "(I)V"⟩
abbrev cX3_hindrance : ByteArray := prog_5_method_11_code
def yX3_hindrance : MethodName := ⟨RX3, "hindrance", "(II)I"⟩
abbrev cX3_hindranceOfDress : ByteArray := prog_5_method_12_code
def yX3_hindranceOfDress : MethodName := ⟨RX3, "hindranceOfDress", "(I)I"⟩
abbrev cX3_act : ByteArray := prog_5_method_13_code
def yX3_act : MethodName := ⟨RX3, "act", "(II)V"⟩
abbrev cX3_wear : ByteArray := prog_5_method_14_code
def yX3_wear : MethodName := ⟨RX3, "wear", "(I)V"⟩
def RX4 : String := "ColourEcho$Guesses"
def TX4 : u_T := fun k => match k with
  | 0 => ("ColourEcho$Guesses", "echo", "[I", true)
  | 1 => ("ColourEcho$Guesses", "fitting", "[I", true)
  | 2 => ("ColourEcho$Guesses", "tally", "[I", true)
  | _ => ("ColourEcho$Guesses", "count", "I", false)
def tyX4 : Nat → FieldType := fun k => match k with
  | 0 => .array .int
  | 1 => .array .int
  | 2 => .array .int
  | _ => .int
abbrev wsX40 : List Cond := u_ws RX4 TX4 4
theorem nmX4 : ∀ a, a < 4 → ∀ b, b < 4 → a ≠ b → (TX4 a).2.1 ≠ (TX4 b).2.1 := by decide +kernel
theorem tyX4_ok : ∀ k, k < 4 → parseFieldDescriptor (TX4 k).2.2.1 = some (tyX4 k) := by decide +kernel
abbrev cX4_init : ByteArray := prog_6_method_1_code
def yX4_init : MethodName := ⟨RX4, "<init>", "()V"⟩
abbrev cX4_gather : ByteArray := prog_6_method_2_code
def yX4_gather : MethodName := ⟨RX4, "gather", "(LColourEcho$Gorge;LColourEcho$Course;)V"⟩
abbrev cX4_fillEcho : ByteArray := prog_6_method_3_code
def yX4_fillEcho : MethodName := ⟨RX4, "fillEcho", "(LColourEcho$Gorge;LColourEcho$Course;)V"⟩
abbrev cX4_fits : ByteArray := prog_6_method_4_code
def yX4_fits : MethodName := ⟨RX4, "fits", "(LColourEcho$Gorge;I)Z"⟩
abbrev cX4_seenBy : ByteArray := prog_6_method_5_code
def yX4_seenBy : MethodName := ⟨RX4, "seenBy", "(II)I"⟩
abbrev cX4_mostLeft : ByteArray := prog_6_method_6_code
def yX4_mostLeft : MethodName := ⟨RX4, "mostLeft", "(I)I"⟩
def RX5 : String := "ColourEcho$Pad"
def TX5 : u_T := fun k => match k with
  | 0 => ("ColourEcho$Pad", "signs", "[I", true)
  | _ => ("ColourEcho$Pad", "count", "I", false)
def tyX5 : Nat → FieldType := fun k => match k with
  | 0 => .array .int
  | _ => .int
abbrev wsX50 : List Cond := u_ws RX5 TX5 2
theorem nmX5 : ∀ a, a < 2 → ∀ b, b < 2 → a ≠ b → (TX5 a).2.1 ≠ (TX5 b).2.1 := by decide +kernel
theorem tyX5_ok : ∀ k, k < 2 → parseFieldDescriptor (TX5 k).2.2.1 = some (tyX5 k) := by decide +kernel
abbrev cX5_init : ByteArray := prog_7_method_1_code
def yX5_init : MethodName := ⟨RX5, "<init>", "()V"⟩
abbrev cX5_colourOf : ByteArray := prog_7_method_2_code
def yX5_colourOf : MethodName := ⟨RX5, "colourOf", "(I)I"⟩
abbrev cX5_dressOf : ByteArray := prog_7_method_3_code
def yX5_dressOf : MethodName := ⟨RX5, "dressOf", "(I)I"⟩
abbrev cX5_takesDigit : ByteArray := prog_7_method_4_code
def yX5_takesDigit : MethodName := ⟨RX5, "takesDigit", "(I)Z"⟩
abbrev cX5_standsAlone : ByteArray := prog_7_method_5_code
def yX5_standsAlone : MethodName := ⟨RX5, "standsAlone", "(I)Z"⟩
abbrev cX5_isDigitOf : ByteArray := prog_7_method_6_code
def yX5_isDigitOf : MethodName := ⟨RX5, "isDigitOf", "(II)Z"⟩
abbrev cX5_lengthAt : ByteArray := prog_7_method_7_code
def yX5_lengthAt : MethodName := ⟨RX5, "lengthAt", "(I)I"⟩
abbrev cX5_digitAt : ByteArray := prog_7_method_8_code
def yX5_digitAt : MethodName := ⟨RX5, "digitAt", "(I)I"⟩
abbrev cX5_faultPlace : ByteArray := prog_7_method_9_code
def yX5_faultPlace : MethodName := ⟨RX5, "faultPlace", "()I"⟩
def RX6 : String := "ColourEcho"
def TX6 : u_T := fun k => match k with
  | 0 => ("ColourEcho", "gorge", "LColourEcho$Gorge;", true)
  | 1 => ("ColourEcho", "scratch", "LColourEcho$Gorge;", true)
  | 2 => ("ColourEcho", "pad", "LColourEcho$Pad;", true)
  | 3 => ("ColourEcho", "days", "LColourEcho$Days;", true)
  | 4 => ("ColourEcho", "course", "LColourEcho$Course;", true)
  | 5 => ("ColourEcho", "guesses", "LColourEcho$Guesses;", true)
  | 6 => ("ColourEcho", "game", "LColourEcho$Game;", true)
  | 7 => ("ColourEcho", "image0", "LColourEcho$Gorge;", true)
  | 8 => ("ColourEcho", "image1", "LColourEcho$Gorge;", true)
  | 9 => ("ColourEcho", "kept", "[Z", true)
  | _ => ("ColourEcho", "echoes", "[I", true)
def tyX6 : Nat → FieldType := fun k => match k with
  | 0 => .object "ColourEcho$Gorge"
  | 1 => .object "ColourEcho$Gorge"
  | 2 => .object "ColourEcho$Pad"
  | 3 => .object "ColourEcho$Days"
  | 4 => .object "ColourEcho$Course"
  | 5 => .object "ColourEcho$Guesses"
  | 6 => .object "ColourEcho$Game"
  | 7 => .object "ColourEcho$Gorge"
  | 8 => .object "ColourEcho$Gorge"
  | 9 => .array .boolean
  | _ => .array .int
abbrev wsX60 : List Cond := u_ws RX6 TX6 11
theorem nmX6 : ∀ a, a < 11 → ∀ b, b < 11 → a ≠ b → (TX6 a).2.1 ≠ (TX6 b).2.1 := by decide +kernel
theorem tyX6_ok : ∀ k, k < 11 → parseFieldDescriptor (TX6 k).2.2.1 = some (tyX6 k) := by decide +kernel
abbrev cX6_init : ByteArray := prog_1_method_1_code
def yX6_init : MethodName := ⟨RX6, "<init>", "()V"⟩
abbrev cX6_wall : ByteArray := prog_1_method_2_code
def yX6_wall : MethodName := ⟨RX6, "wall", "(III)I"⟩
abbrev cX6_dress : ByteArray := prog_1_method_3_code
def yX6_dress : MethodName := ⟨RX6, "dress", "(IIII)I"⟩
abbrev cX6_limit : ByteArray := prog_1_method_4_code
def yX6_limit : MethodName := ⟨RX6, "limit", "(I)I"⟩
abbrev cX6_say : ByteArray := prog_1_method_5_code
def yX6_say : MethodName := ⟨RX6, "say", "(I)I"⟩
abbrev cX6_wipe : ByteArray := prog_1_method_6_code
def yX6_wipe : MethodName := ⟨RX6, "wipe", "()I"⟩
abbrev cX6_fault : ByteArray := prog_1_method_7_code
def yX6_fault : MethodName := ⟨RX6, "fault", "()I"⟩
abbrev cX6_judge : ByteArray := prog_1_method_8_code
def yX6_judge : MethodName := ⟨RX6, "judge", "(I)I"⟩
abbrev cX6_done : ByteArray := prog_1_method_9_code
def yX6_done : MethodName := ⟨RX6, "done", "()I"⟩
abbrev cX6_behind : ByteArray := prog_1_method_10_code
def yX6_behind : MethodName := ⟨RX6, "behind", "(I)I"⟩
abbrev cX6_broken : ByteArray := prog_1_method_11_code
def yX6_broken : MethodName := ⟨RX6, "broken", "()I"⟩
abbrev cX6_sees : ByteArray := prog_1_method_12_code
def yX6_sees : MethodName := ⟨RX6, "sees", "(I)I"⟩
abbrev cX6_forecast : ByteArray := prog_1_method_13_code
def yX6_forecast : MethodName := ⟨RX6, "forecast", "(II)I"⟩
abbrev cX6_gone : ByteArray := prog_1_method_14_code
def yX6_gone : MethodName := ⟨RX6, "gone", "()I"⟩
abbrev cX6_hue : ByteArray := prog_1_method_15_code
def yX6_hue : MethodName := ⟨RX6, "hue", "(I)I"⟩
abbrev cX6_make : ByteArray := prog_1_method_16_code
def yX6_make : MethodName := ⟨RX6, "make", "(IIII)I"⟩
abbrev cX6_wish : ByteArray := prog_1_method_17_code
def yX6_wish : MethodName := ⟨RX6, "wish", "(IIII)I"⟩
abbrev cX6_whiten : ByteArray := prog_1_method_18_code
def yX6_whiten : MethodName := ⟨RX6, "whiten", "(III)I"⟩
abbrev cX6_apart : ByteArray := prog_1_method_19_code
def yX6_apart : MethodName := ⟨RX6, "apart", "(III)I"⟩
abbrev cX6_spoil : ByteArray := prog_1_method_20_code
def yX6_spoil : MethodName := ⟨RX6, "spoil", "(III)I"⟩
abbrev cX6_seen : ByteArray := prog_1_method_21_code
def yX6_seen : MethodName := ⟨RX6, "seen", "(II)I"⟩
abbrev cX6_forget : ByteArray := prog_1_method_22_code
def yX6_forget : MethodName := ⟨RX6, "forget", "()I"⟩
abbrev cX6_shown : ByteArray := prog_1_method_23_code
def yX6_shown : MethodName := ⟨RX6, "shown", "(I)I"⟩
abbrev cX6_look : ByteArray := prog_1_method_24_code
def yX6_look : MethodName := ⟨RX6, "look", "(I)I"⟩
abbrev cX6_fogs : ByteArray := prog_1_method_25_code
def yX6_fogs : MethodName := ⟨RX6, "fogs", "(IIIIII)J"⟩
abbrev cX6_turns : ByteArray := prog_1_method_26_code
def yX6_turns : MethodName := ⟨RX6, "turns", "(II)I"⟩
abbrev cX6_year : ByteArray := prog_1_method_27_code
def yX6_year : MethodName := ⟨RX6, "year", "(III)I"⟩
abbrev cX6_image : ByteArray := prog_1_method_28_code
def yX6_image : MethodName := ⟨RX6, "image", "(I)I"⟩
abbrev cX6_restore : ByteArray := prog_1_method_29_code
def yX6_restore : MethodName := ⟨RX6, "restore", "(I)I"⟩
abbrev cX6_told : ByteArray := prog_1_method_30_code
def yX6_told : MethodName := ⟨RX6, "told", "(I)I"⟩
abbrev cX6_isWithin : ByteArray := prog_1_method_31_code
def yX6_isWithin : MethodName := ⟨RX6, "isWithin", "(III)Z"⟩
abbrev cX6_isColour : ByteArray := prog_1_method_32_code
def yX6_isColour : MethodName := ⟨RX6, "isColour", "(I)Z"⟩
abbrev cX6_isDress : ByteArray := prog_1_method_33_code
def yX6_isDress : MethodName := ⟨RX6, "isDress", "(I)Z"⟩
abbrev cX6_isSet : ByteArray := prog_1_method_34_code
def yX6_isSet : MethodName := ⟨RX6, "isSet", "(I)Z"⟩
abbrev cX6_isAmount : ByteArray := prog_1_method_35_code
def yX6_isAmount : MethodName := ⟨RX6, "isAmount", "(I)Z"⟩
abbrev cX6_isAhead : ByteArray := prog_1_method_36_code
def yX6_isAhead : MethodName := ⟨RX6, "isAhead", "(I)Z"⟩
abbrev cX6_has : ByteArray := prog_1_method_37_code
def yX6_has : MethodName := ⟨RX6, "has", "(II)Z"⟩
abbrev cX6_capped : ByteArray := prog_1_method_38_code
def yX6_capped : MethodName := ⟨RX6, "capped", "(I)I"⟩
abbrev cX6_daysCanBe : ByteArray := prog_1_method_39_code
def yX6_daysCanBe : MethodName := ⟨RX6, "daysCanBe", "()Z"⟩
abbrev cX6_seenWith : ByteArray := prog_1_method_40_code
def yX6_seenWith : MethodName := ⟨RX6, "seenWith", "(III)I"⟩
abbrev cX6_echoAlone : ByteArray := prog_1_method_41_code
def yX6_echoAlone : MethodName := ⟨RX6, "echoAlone", "(II)I"⟩
abbrev cX6_leastShow : ByteArray := prog_1_method_42_code
def yX6_leastShow : MethodName := ⟨RX6, "leastShow", "(III)I"⟩
abbrev cX6_wishDifference : ByteArray := prog_1_method_43_code
def yX6_wishDifference : MethodName := ⟨RX6, "wishDifference", "(III)I"⟩
abbrev cX6_fadesWithout : ByteArray := prog_1_method_44_code
def yX6_fadesWithout : MethodName := ⟨RX6, "fadesWithout", "(III)Z"⟩
abbrev cX6_fillEchoes : ByteArray := prog_1_method_45_code
def yX6_fillEchoes : MethodName := ⟨RX6, "fillEchoes", "(I)V"⟩
abbrev cX6_echoAlike : ByteArray := prog_1_method_46_code
def yX6_echoAlike : MethodName := ⟨RX6, "echoAlike", "(II)Z"⟩
abbrev cX6_fogWeight : ByteArray := prog_1_method_47_code
def yX6_fogWeight : MethodName := ⟨RX6, "fogWeight", "(III)J"⟩
abbrev cX6_power : ByteArray := prog_1_method_48_code
def yX6_power : MethodName := ⟨RX6, "power", "(II)J"⟩
abbrev cX6_commonDivisor : ByteArray := prog_1_method_49_code
def yX6_commonDivisor : MethodName := ⟨RX6, "commonDivisor", "(JJ)J"⟩
abbrev cX6_imageOf : ByteArray := prog_1_method_50_code
def yX6_imageOf : MethodName := ⟨RX6, "imageOf", "(I)LColourEcho$Gorge;"⟩
abbrev cX6_toldOfToday : ByteArray := prog_1_method_51_code
def yX6_toldOfToday : MethodName := ⟨RX6, "toldOfToday", "(I)I"⟩
def RX7 : String := "ColourEchoModel"
def TX7 : u_T := fun k => match k with
  | 0 => ("ColourEchoModel", "off", "[I", true)
  | 1 => ("ColourEchoModel", "keeps", "[I", true)
  | 2 => ("ColourEchoModel", "dress", "[I", true)
  | 3 => ("ColourEchoModel", "limit", "I", false)
  | 4 => ("ColourEchoModel", "day", "I", false)
  | 5 => ("ColourEchoModel", "shownToday", "[I", true)
  | 6 => ("ColourEchoModel", "fog", "I", false)
  | 7 => ("ColourEchoModel", "snow", "I", false)
  | 8 => ("ColourEchoModel", "out", "I", false)
  | 9 => ("ColourEchoModel", "past", "[I", true)
  | 10 => ("ColourEchoModel", "sights", "I", false)
  | 11 => ("ColourEchoModel", "sight", "[I", true)
  | 12 => ("ColourEchoModel", "signs", "I", false)
  | 13 => ("ColourEchoModel", "pad", "[I", true)
  | 14 => ("ColourEchoModel", "shown", "[I", true)
  | 15 => ("ColourEchoModel", "then", "[I", true)
  | 16 => ("ColourEchoModel", "keep", "[I", true)
  | 17 => ("ColourEchoModel", "fogNow", "I", false)
  | 18 => ("ColourEchoModel", "snowNow", "I", false)
  | 19 => ("ColourEchoModel", "outNow", "I", false)
  | 20 => ("ColourEchoModel", "dayNow", "I", false)
  | 21 => ("ColourEchoModel", "reason", "I", false)
  | 22 => ("ColourEchoModel", "acts", "I", false)
  | 23 => ("ColourEchoModel", "brokenAt", "I", false)
  | 24 => ("ColourEchoModel", "echo", "[I", true)
  | 25 => ("ColourEchoModel", "since", "[I", true)
  | 26 => ("ColourEchoModel", "counts", "[I", true)
  | 27 => ("ColourEchoModel", "value", "[I", true)
  | 28 => ("ColourEchoModel", "image", "[I", true)
  | _ => ("ColourEchoModel", "isKept", "[Z", true)
def tyX7 : Nat → FieldType := fun k => match k with
  | 0 => .array .int
  | 1 => .array .int
  | 2 => .array .int
  | 3 => .int
  | 4 => .int
  | 5 => .array .int
  | 6 => .int
  | 7 => .int
  | 8 => .int
  | 9 => .array .int
  | 10 => .int
  | 11 => .array .int
  | 12 => .int
  | 13 => .array .int
  | 14 => .array .int
  | 15 => .array .int
  | 16 => .array .int
  | 17 => .int
  | 18 => .int
  | 19 => .int
  | 20 => .int
  | 21 => .int
  | 22 => .int
  | 23 => .int
  | 24 => .array .int
  | 25 => .array .int
  | 26 => .array .int
  | 27 => .array .int
  | 28 => .array .int
  | _ => .array .boolean
abbrev wsX70 : List Cond := u_ws RX7 TX7 30
theorem nmX7 : ∀ a, a < 30 → ∀ b, b < 30 → a ≠ b → (TX7 a).2.1 ≠ (TX7 b).2.1 := by decide +kernel
theorem tyX7_ok : ∀ k, k < 30 → parseFieldDescriptor (TX7 k).2.2.1 = some (tyX7 k) := by decide +kernel
abbrev cX7_init : ByteArray := prog_9_method_1_code
def yX7_init : MethodName := ⟨RX7, "<init>", "()V"⟩
abbrev cX7_in : ByteArray := prog_9_method_2_code
def yX7_in : MethodName := ⟨RX7, "in", "(III)Z"⟩
abbrev cX7_has : ByteArray := prog_9_method_3_code
def yX7_has : MethodName := ⟨RX7, "has", "(II)Z"⟩
abbrev cX7_bits : ByteArray := prog_9_method_4_code
def yX7_bits : MethodName := ⟨RX7, "bits", "(I)I"⟩
abbrev cX7_wall : ByteArray := prog_9_method_5_code
def yX7_wall : MethodName := ⟨RX7, "wall", "(III)I"⟩
abbrev cX7_dress : ByteArray := prog_9_method_6_code
def yX7_dress : MethodName := ⟨RX7, "dress", "(IIII)I"⟩
abbrev cX7_limit : ByteArray := prog_9_method_7_code
def yX7_limit : MethodName := ⟨RX7, "limit", "(I)I"⟩
abbrev cX7_say : ByteArray := prog_9_method_8_code
def yX7_say : MethodName := ⟨RX7, "say", "(I)I"⟩
abbrev cX7_wipe : ByteArray := prog_9_method_9_code
def yX7_wipe : MethodName := ⟨RX7, "wipe", "()I"⟩
abbrev cX7_colourOf : ByteArray := prog_9_method_10_code
def yX7_colourOf : MethodName := ⟨RX7, "colourOf", "(I)I"⟩
abbrev cX7_faultOf : ByteArray := prog_9_method_11_code
def yX7_faultOf : MethodName := ⟨RX7, "faultOf", "()I"⟩
abbrev cX7_fault : ByteArray := prog_9_method_12_code
def yX7_fault : MethodName := ⟨RX7, "fault", "()I"⟩
abbrev cX7_asNow : ByteArray := prog_9_method_13_code
def yX7_asNow : MethodName := ⟨RX7, "asNow", "()V"⟩
abbrev cX7_empty : ByteArray := prog_9_method_14_code
def yX7_empty : MethodName := ⟨RX7, "empty", "()V"⟩
abbrev cX7_see : ByteArray := prog_9_method_15_code
def yX7_see : MethodName := ⟨RX7, "see", "(I)I"⟩
abbrev cX7_seeAll : ByteArray := prog_9_method_16_code
def yX7_seeAll : MethodName := ⟨RX7, "seeAll", "()I"⟩
abbrev cX7_isOver : ByteArray := prog_9_method_17_code
def yX7_isOver : MethodName := ⟨RX7, "isOver", "()Z"⟩
abbrev cX7_pass : ByteArray := prog_9_method_18_code
def yX7_pass : MethodName := ⟨RX7, "pass", "()V"⟩
abbrev cX7_waits : ByteArray := prog_9_method_19_code
def yX7_waits : MethodName := ⟨RX7, "waits", "(I)V"⟩
abbrev cX7_wear : ByteArray := prog_9_method_20_code
def yX7_wear : MethodName := ⟨RX7, "wear", "(I)V"⟩
abbrev cX7_whyNotWear : ByteArray := prog_9_method_21_code
def yX7_whyNotWear : MethodName := ⟨RX7, "whyNotWear", "(I)I"⟩
abbrev cX7_note : ByteArray := prog_9_method_22_code
def yX7_note : MethodName := ⟨RX7, "note", "()V"⟩
abbrev cX7_goDays : ByteArray := prog_9_method_23_code
def yX7_goDays : MethodName := ⟨RX7, "goDays", "()I"⟩
abbrev cX7_judge : ByteArray := prog_9_method_24_code
def yX7_judge : MethodName := ⟨RX7, "judge", "(I)I"⟩
abbrev cX7_barOfDays : ByteArray := prog_9_method_25_code
def yX7_barOfDays : MethodName := ⟨RX7, "barOfDays", "()I"⟩
abbrev cX7_done : ByteArray := prog_9_method_26_code
def yX7_done : MethodName := ⟨RX7, "done", "()I"⟩
abbrev cX7_behind : ByteArray := prog_9_method_27_code
def yX7_behind : MethodName := ⟨RX7, "behind", "(I)I"⟩
abbrev cX7_broken : ByteArray := prog_9_method_28_code
def yX7_broken : MethodName := ⟨RX7, "broken", "()I"⟩
abbrev cX7_sees : ByteArray := prog_9_method_29_code
def yX7_sees : MethodName := ⟨RX7, "sees", "(I)I"⟩
abbrev cX7_isDay : ByteArray := prog_9_method_30_code
def yX7_isDay : MethodName := ⟨RX7, "isDay", "(I)Z"⟩
abbrev cX7_forecast : ByteArray := prog_9_method_31_code
def yX7_forecast : MethodName := ⟨RX7, "forecast", "(II)I"⟩
abbrev cX7_gone : ByteArray := prog_9_method_32_code
def yX7_gone : MethodName := ⟨RX7, "gone", "()I"⟩
abbrev cX7_hue : ByteArray := prog_9_method_33_code
def yX7_hue : MethodName := ⟨RX7, "hue", "(I)I"⟩
abbrev cX7_make : ByteArray := prog_9_method_34_code
def yX7_make : MethodName := ⟨RX7, "make", "(IIII)I"⟩
abbrev cX7_apartBy : ByteArray := prog_9_method_35_code
def yX7_apartBy : MethodName := ⟨RX7, "apartBy", "(II)I"⟩
abbrev cX7_wish : ByteArray := prog_9_method_36_code
def yX7_wish : MethodName := ⟨RX7, "wish", "(IIII)I"⟩
abbrev cX7_whiten : ByteArray := prog_9_method_37_code
def yX7_whiten : MethodName := ⟨RX7, "whiten", "(III)I"⟩
abbrev cX7_apart : ByteArray := prog_9_method_38_code
def yX7_apart : MethodName := ⟨RX7, "apart", "(III)I"⟩
abbrev cX7_allBehind : ByteArray := prog_9_method_39_code
def yX7_allBehind : MethodName := ⟨RX7, "allBehind", "(III)I"⟩
abbrev cX7_spoil : ByteArray := prog_9_method_40_code
def yX7_spoil : MethodName := ⟨RX7, "spoil", "(III)I"⟩
abbrev cX7_seen : ByteArray := prog_9_method_41_code
def yX7_seen : MethodName := ⟨RX7, "seen", "(II)I"⟩
abbrev cX7_forget : ByteArray := prog_9_method_42_code
def yX7_forget : MethodName := ⟨RX7, "forget", "()I"⟩
abbrev cX7_layShown : ByteArray := prog_9_method_43_code
def yX7_layShown : MethodName := ⟨RX7, "layShown", "()V"⟩
abbrev cX7_seenOn : ByteArray := prog_9_method_44_code
def yX7_seenOn : MethodName := ⟨RX7, "seenOn", "(III)I"⟩
abbrev cX7_fits : ByteArray := prog_9_method_45_code
def yX7_fits : MethodName := ⟨RX7, "fits", "(II)Z"⟩
abbrev cX7_shown : ByteArray := prog_9_method_46_code
def yX7_shown : MethodName := ⟨RX7, "shown", "(I)I"⟩
abbrev cX7_look : ByteArray := prog_9_method_47_code
def yX7_look : MethodName := ⟨RX7, "look", "(I)I"⟩
abbrev cX7_fogs : ByteArray := prog_9_method_48_code
def yX7_fogs : MethodName := ⟨RX7, "fogs", "(IIIIII)J"⟩
abbrev cX7_isOverBy : ByteArray := prog_9_method_49_code
def yX7_isOverBy : MethodName := ⟨RX7, "isOverBy", "(I)Z"⟩
abbrev cX7_turns : ByteArray := prog_9_method_50_code
def yX7_turns : MethodName := ⟨RX7, "turns", "(II)I"⟩
abbrev cX7_year : ByteArray := prog_9_method_51_code
def yX7_year : MethodName := ⟨RX7, "year", "(III)I"⟩
abbrev cX7_image : ByteArray := prog_9_method_52_code
def yX7_image : MethodName := ⟨RX7, "image", "(I)I"⟩
abbrev cX7_restore : ByteArray := prog_9_method_53_code
def yX7_restore : MethodName := ⟨RX7, "restore", "(I)I"⟩
abbrev cX7_told : ByteArray := prog_9_method_54_code
def yX7_told : MethodName := ⟨RX7, "told", "(I)I"⟩
def RJ6 : String := "java/lang/Integer"
def TJ6 : u_T := fun k => match k with
  | _ => ("", "", "", false)
def tyJ6 : Nat → FieldType := fun k => match k with
  | _ => .int
abbrev wsJ60 : List Cond := u_ws RJ6 TJ6 0
theorem nmJ6 : ∀ a, a < 0 → ∀ b, b < 0 → a ≠ b → (TJ6 a).2.1 ≠ (TJ6 b).2.1 := by decide +kernel
theorem tyJ6_ok : ∀ k, k < 0 → parseFieldDescriptor (TJ6 k).2.2.1 = some (tyJ6 k) := by decide +kernel
abbrev cJ6_bitCount_0f7a4 : ByteArray := prog_10_method_49_code
def yJ6_bitCount_0f7a4 : MethodName := ⟨RJ6, "bitCount", "(I)I"⟩
def RJ9 : String := "java/lang/Math"
def TJ9 : u_T := fun k => match k with
  | _ => ("", "", "", false)
def tyJ9 : Nat → FieldType := fun k => match k with
  | _ => .int
abbrev wsJ90 : List Cond := u_ws RJ9 TJ9 0
theorem nmJ9 : ∀ a, a < 0 → ∀ b, b < 0 → a ≠ b → (TJ9 a).2.1 ≠ (TJ9 b).2.1 := by decide +kernel
theorem tyJ9_ok : ∀ k, k < 0 → parseFieldDescriptor (TJ9 k).2.2.1 = some (tyJ9 k) := by decide +kernel
abbrev cJ9_abs_0f7a4 : ByteArray := prog_11_method_59_code
def yJ9_abs_0f7a4 : MethodName := ⟨RJ9, "abs", "(I)I"⟩
abbrev cJ9_max_7cf53 : ByteArray := prog_11_method_65_code
def yJ9_max_7cf53 : MethodName := ⟨RJ9, "max", "(II)I"⟩
def RJ10 : String := "java/lang/System"
def TJ10 : u_T := fun k => match k with
  | _ => ("", "", "", false)
def tyJ10 : Nat → FieldType := fun k => match k with
  | _ => .int
abbrev wsJ100 : List Cond := u_ws RJ10 TJ10 0
theorem nmJ10 : ∀ a, a < 0 → ∀ b, b < 0 → a ≠ b → (TJ10 a).2.1 ≠ (TJ10 b).2.1 := by decide +kernel
theorem tyJ10_ok : ∀ k, k < 0 → parseFieldDescriptor (TJ10 k).2.2.1 = some (tyJ10 k) := by decide +kernel
def RL : String := "ColourEchoLaw"
abbrev cL_law : ByteArray := code
def yL_law : MethodName := ⟨RL, "law", "([I)Z"⟩
def wsX0_init : List Cond := .code yX0_init cX0_init 1 none :: ([.methodLink RX0 3 objectInit, .instanceMethod objectInit, .code objectInit ⟨#[0xb1]⟩ 1 none, .arrayClass .int, .fieldLink RX0 11 "ColourEcho$Course" "row" "[I"] ++ wsX00)
def wsX3_seenAgo : List Cond := .code yX3_seenAgo cX3_seenAgo 3 (some .int) :: ([.fieldLink RX3 21 "ColourEcho$Gorge" "past" "[I"] ++ wsX30)
def wsX6_capped : List Cond := .code yX6_capped cX6_capped 1 (some .int) :: ([])
def wsX3_seenToday : List Cond := .code yX3_seenToday cX3_seenToday 5 (some .int) :: ([.fieldLink RX3 24 "ColourEcho$Gorge" "today" "[I", .fieldLink RX3 46 "ColourEcho$Gorge" "fog" "Z", .fieldLink RX3 50 "ColourEcho$Gorge" "snow" "Z", .fieldLink RX3 9 "ColourEcho$Gorge" "off" "[I", .fieldLink RX3 15 "ColourEcho$Gorge" "keeps" "[I", .methodLink RX3 67 yX3_seenAgo, .instanceMethod yX3_seenAgo, .selects RX3 yX3_seenAgo yX3_seenAgo, .initialized RX3, .code yX3_seenAgo cX3_seenAgo 3 (some .int), .fieldLink RX3 21 "ColourEcho$Gorge" "past" "[I", .static yX6_capped, .initialized RX6, .code yX6_capped cX6_capped 1 (some .int)] ++ wsX30)
def wsX0_fromNow : List Cond := .code yX0_fromNow cX0_fromNow 5 none :: ([.fieldLink RX0 11 "ColourEcho$Course" "row" "[I", .fieldLink RX0 15 "ColourEcho$Gorge" "snow" "Z", .methodLink RX0 21 yX3_seenAgo, .instanceMethod yX3_seenAgo, .selects RX3 yX3_seenAgo yX3_seenAgo, .initialized RX3, .code yX3_seenAgo cX3_seenAgo 3 (some .int), .fieldLink RX3 21 "ColourEcho$Gorge" "past" "[I", .methodLink RX0 25 yX3_seenToday, .instanceMethod yX3_seenToday, .selects RX3 yX3_seenToday yX3_seenToday, .code yX3_seenToday cX3_seenToday 5 (some .int), .fieldLink RX3 24 "ColourEcho$Gorge" "today" "[I", .fieldLink RX3 46 "ColourEcho$Gorge" "fog" "Z", .fieldLink RX3 50 "ColourEcho$Gorge" "snow" "Z", .fieldLink RX3 9 "ColourEcho$Gorge" "off" "[I", .fieldLink RX3 15 "ColourEcho$Gorge" "keeps" "[I", .methodLink RX3 67 yX3_seenAgo, .static yX6_capped, .initialized RX6, .code yX6_capped cX6_capped 1 (some .int)] ++ wsX00 ++ wsX30)
def wsX0_fromNothing : List Cond := .code yX0_fromNothing cX0_fromNothing 3 none :: ([.fieldLink RX0 11 "ColourEcho$Course" "row" "[I", .static yX6_capped, .initialized RX6, .code yX6_capped cX6_capped 1 (some .int)] ++ wsX00)
def wsX6_has : List Cond := .code yX6_has cX6_has 2 (some .boolean) :: ([])
def wsX0_offWalls : List Cond := .code yX0_offWalls cX0_offWalls 5 (some .int) :: ([.fieldLink RX0 11 "ColourEcho$Course" "row" "[I", .fieldLink RX0 40 "ColourEcho$Gorge" "off" "[I", .fieldLink RX0 43 "ColourEcho$Gorge" "keeps" "[I", .static yX6_capped, .initialized RX6, .code yX6_capped cX6_capped 1 (some .int)] ++ wsX00 ++ wsX30)
def wsX0_run : List Cond := .code yX0_run cX0_run 6 none :: ([.fieldLink RX0 11 "ColourEcho$Course" "row" "[I", .static yX6_has, .initialized RX6, .code yX6_has cX6_has 2 (some .boolean), .methodLink RX0 36 yX0_offWalls, .instanceMethod yX0_offWalls, .selects RX0 yX0_offWalls yX0_offWalls, .initialized RX0, .code yX0_offWalls cX0_offWalls 5 (some .int), .fieldLink RX0 40 "ColourEcho$Gorge" "off" "[I", .fieldLink RX0 43 "ColourEcho$Gorge" "keeps" "[I", .static yX6_capped, .code yX6_capped cX6_capped 1 (some .int)] ++ wsX00 ++ wsX30)
def wsX0_at : List Cond := .code yX0_at cX0_at 2 (some .int) :: ([.fieldLink RX0 11 "ColourEcho$Course" "row" "[I"] ++ wsX00)
def wsX0_mostFrom : List Cond := .code yX0_mostFrom cX0_mostFrom 4 (some .int) :: ([.methodLink RX0 49 Lib.Math.max.name, .static Lib.Math.max.name, .initialized "java/lang/Math", .code Lib.Math.max.name Lib.Math.max.code 2 (some .int), .methodLink RX0 46 yX0_at, .instanceMethod yX0_at, .selects RX0 yX0_at yX0_at, .initialized RX0, .code yX0_at cX0_at 2 (some .int), .fieldLink RX0 11 "ColourEcho$Course" "row" "[I"] ++ wsX00)
def wsX0_lastSeen : List Cond := .code yX0_lastSeen cX0_lastSeen 2 (some .int) :: ([.methodLink RX0 46 yX0_at, .instanceMethod yX0_at, .selects RX0 yX0_at yX0_at, .initialized RX0, .code yX0_at cX0_at 2 (some .int), .fieldLink RX0 11 "ColourEcho$Course" "row" "[I"] ++ wsX00)
def wsX3_init : List Cond := .code yX3_init cX3_init 1 none :: ([.methodLink RX3 3 objectInit, .instanceMethod objectInit, .code objectInit ⟨#[0xb1]⟩ 1 none, .arrayClass .int, .fieldLink RX3 9 "ColourEcho$Gorge" "off" "[I", .fieldLink RX3 15 "ColourEcho$Gorge" "keeps" "[I", .fieldLink RX3 18 "ColourEcho$Gorge" "dresses" "[I", .fieldLink RX3 21 "ColourEcho$Gorge" "past" "[I", .fieldLink RX3 24 "ColourEcho$Gorge" "today" "[I", .fieldLink RX3 27 "ColourEcho$Gorge" "sightDays" "[I", .fieldLink RX3 30 "ColourEcho$Gorge" "sightAmounts" "[I", .fieldLink RX3 33 "ColourEcho$Gorge" "sights" "I", .fieldLink RX3 37 "ColourEcho$Gorge" "most" "I", .fieldLink RX3 40 "ColourEcho$Gorge" "day" "I", .fieldLink RX3 43 "ColourEcho$Gorge" "worn" "I", .fieldLink RX3 46 "ColourEcho$Gorge" "fog" "Z", .fieldLink RX3 50 "ColourEcho$Gorge" "snow" "Z"] ++ wsX30)
def wsX1_init_r1 : List Cond := [Cond.methodLink RX1 3 objectInit, Cond.instanceMethod objectInit, Cond.code objectInit ⟨#[0xb1]⟩ 1 none, Cond.classLink RX1 9 RX3, Cond.instantiable RX3 13, Cond.initialized RX3, Cond.fieldLink RX1 12 "ColourEcho$Days" "end" "LColourEcho$Gorge;", Cond.fieldLink RX1 18 "ColourEcho$Days" "acts" "I", Cond.fieldLink RX1 22 "ColourEcho$Days" "reason" "I", Cond.fieldLink RX1 25 "ColourEcho$Days" "firstOver" "I", Cond.instanceMethod yX3_init, Cond.code yX3_init cX3_init 1 none, Cond.methodLink RX3 3 objectInit, Cond.arrayClass .int, Cond.fieldLink RX3 9 "ColourEcho$Gorge" "off" "[I", Cond.fieldLink RX3 15 "ColourEcho$Gorge" "keeps" "[I", Cond.fieldLink RX3 18 "ColourEcho$Gorge" "dresses" "[I", Cond.fieldLink RX3 21 "ColourEcho$Gorge" "past" "[I", Cond.fieldLink RX3 24 "ColourEcho$Gorge" "today" "[I", Cond.fieldLink RX3 27 "ColourEcho$Gorge" "sightDays" "[I", Cond.fieldLink RX3 30 "ColourEcho$Gorge" "sightAmounts" "[I", Cond.fieldLink RX3 33 "ColourEcho$Gorge" "sights" "I", Cond.fieldLink RX3 37 "ColourEcho$Gorge" "most" "I", Cond.fieldLink RX3 40 "ColourEcho$Gorge" "day" "I"]
def wsX1_init_r2 : List Cond := [Cond.fieldLink RX3 43 "ColourEcho$Gorge" "worn" "I", Cond.fieldLink RX3 46 "ColourEcho$Gorge" "fog" "Z", Cond.fieldLink RX3 50 "ColourEcho$Gorge" "snow" "Z"]
def wsX1_init : List Cond := .code yX1_init cX1_init 1 none :: ((wsX1_init_r1 ++ wsX1_init_r2) ++ wsX30 ++ wsX10)
def wsX3_become : List Cond := .code yX3_become cX3_become 2 none :: ([.fieldLink RX3 9 "ColourEcho$Gorge" "off" "[I", .methodLink RX3 53 arraycopyName, .native arraycopyName, .static arraycopyName, .initialized "java/lang/System", .fieldLink RX3 15 "ColourEcho$Gorge" "keeps" "[I", .fieldLink RX3 18 "ColourEcho$Gorge" "dresses" "[I", .fieldLink RX3 21 "ColourEcho$Gorge" "past" "[I", .fieldLink RX3 24 "ColourEcho$Gorge" "today" "[I", .fieldLink RX3 27 "ColourEcho$Gorge" "sightDays" "[I", .fieldLink RX3 30 "ColourEcho$Gorge" "sightAmounts" "[I", .fieldLink RX3 33 "ColourEcho$Gorge" "sights" "I", .fieldLink RX3 37 "ColourEcho$Gorge" "most" "I", .fieldLink RX3 40 "ColourEcho$Gorge" "day" "I", .fieldLink RX3 43 "ColourEcho$Gorge" "worn" "I", .fieldLink RX3 46 "ColourEcho$Gorge" "fog" "Z", .fieldLink RX3 50 "ColourEcho$Gorge" "snow" "Z"] ++ wsX30)
def wsX5_colourOf : List Cond := .code yX5_colourOf cX5_colourOf 1 (some .int) :: ([])
def wsX5_takesDigit : List Cond := .code yX5_takesDigit cX5_takesDigit 1 (some .boolean) :: ([.methodLink RX5 19 yX5_colourOf, .static yX5_colourOf, .initialized RX5, .code yX5_colourOf cX5_colourOf 1 (some .int)])
def wsX5_digitAt : List Cond := .code yX5_digitAt cX5_digitAt 2 (some .int) :: ([.fieldLink RX5 9 "ColourEcho$Pad" "signs" "[I", .fieldLink RX5 15 "ColourEcho$Pad" "count" "I", .methodLink RX5 30 yX5_takesDigit, .static yX5_takesDigit, .initialized RX5, .code yX5_takesDigit cX5_takesDigit 1 (some .boolean), .methodLink RX5 19 yX5_colourOf, .static yX5_colourOf, .code yX5_colourOf cX5_colourOf 1 (some .int)] ++ wsX50)
def wsX5_dressOf : List Cond := .code yX5_dressOf cX5_dressOf 1 (some .int) :: ([])
def wsX3_worth : List Cond := .code yX3_worth cX3_worth 3 (some .int) :: ([.fieldLink RX3 18 "ColourEcho$Gorge" "dresses" "[I"] ++ wsX30)
def wsX3_hindranceOfDress : List Cond := .code yX3_hindranceOfDress cX3_hindranceOfDress 3 (some .int) :: ([.fieldLink RX3 24 "ColourEcho$Gorge" "today" "[I", .fieldLink RX3 43 "ColourEcho$Gorge" "worn" "I", .methodLink RX3 63 yX3_worth, .instanceMethod yX3_worth, .selects RX3 yX3_worth yX3_worth, .initialized RX3, .code yX3_worth cX3_worth 3 (some .int), .fieldLink RX3 18 "ColourEcho$Gorge" "dresses" "[I", .static yX6_has, .initialized RX6, .code yX6_has cX6_has 2 (some .boolean)] ++ wsX30)
def wsX3_hindrance : List Cond := .code yX3_hindrance cX3_hindrance 5 (some .int) :: ([.fieldLink RX3 24 "ColourEcho$Gorge" "today" "[I", .fieldLink RX3 15 "ColourEcho$Gorge" "keeps" "[I", .fieldLink RX3 40 "ColourEcho$Gorge" "day" "I", .methodLink RX3 82 yX5_colourOf, .static yX5_colourOf, .initialized RX5, .code yX5_colourOf cX5_colourOf 1 (some .int), .methodLink RX3 87 yX5_dressOf, .static yX5_dressOf, .code yX5_dressOf cX5_dressOf 1 (some .int), .methodLink RX3 90 yX3_hindranceOfDress, .instanceMethod yX3_hindranceOfDress, .selects RX3 yX3_hindranceOfDress yX3_hindranceOfDress, .initialized RX3, .code yX3_hindranceOfDress cX3_hindranceOfDress 3 (some .int), .fieldLink RX3 43 "ColourEcho$Gorge" "worn" "I", .methodLink RX3 63 yX3_worth, .instanceMethod yX3_worth, .selects RX3 yX3_worth yX3_worth, .code yX3_worth cX3_worth 3 (some .int), .fieldLink RX3 18 "ColourEcho$Gorge" "dresses" "[I", .static yX6_has, .initialized RX6, .code yX6_has cX6_has 2 (some .boolean)] ++ wsX30)
def wsX3_isOver : List Cond := .code yX3_isOver cX3_isOver 1 (some .boolean) :: ([.fieldLink RX3 37 "ColourEcho$Gorge" "most" "I", .methodLink RX3 74 yX3_seenToday, .instanceMethod yX3_seenToday, .selects RX3 yX3_seenToday yX3_seenToday, .initialized RX3, .code yX3_seenToday cX3_seenToday 5 (some .int), .fieldLink RX3 24 "ColourEcho$Gorge" "today" "[I", .fieldLink RX3 46 "ColourEcho$Gorge" "fog" "Z", .fieldLink RX3 50 "ColourEcho$Gorge" "snow" "Z", .fieldLink RX3 9 "ColourEcho$Gorge" "off" "[I", .fieldLink RX3 15 "ColourEcho$Gorge" "keeps" "[I", .methodLink RX3 67 yX3_seenAgo, .instanceMethod yX3_seenAgo, .selects RX3 yX3_seenAgo yX3_seenAgo, .code yX3_seenAgo cX3_seenAgo 3 (some .int), .fieldLink RX3 21 "ColourEcho$Gorge" "past" "[I", .static yX6_capped, .initialized RX6, .code yX6_capped cX6_capped 1 (some .int)] ++ wsX30)
def wsX1_noteOver_r1 : List Cond := [Cond.fieldLink RX1 25 "ColourEcho$Days" "firstOver" "I", Cond.fieldLink RX1 12 "ColourEcho$Days" "end" "LColourEcho$Gorge;", Cond.fieldLink RX1 49 "ColourEcho$Gorge" "day" "I", Cond.methodLink RX1 63 yX3_isOver, Cond.instanceMethod yX3_isOver, Cond.selects RX3 yX3_isOver yX3_isOver, Cond.initialized RX3, Cond.code yX3_isOver cX3_isOver 1 (some .boolean), Cond.fieldLink RX3 37 "ColourEcho$Gorge" "most" "I", Cond.methodLink RX3 74 yX3_seenToday, Cond.instanceMethod yX3_seenToday, Cond.selects RX3 yX3_seenToday yX3_seenToday, Cond.code yX3_seenToday cX3_seenToday 5 (some .int), Cond.fieldLink RX3 24 "ColourEcho$Gorge" "today" "[I", Cond.fieldLink RX3 46 "ColourEcho$Gorge" "fog" "Z", Cond.fieldLink RX3 50 "ColourEcho$Gorge" "snow" "Z", Cond.fieldLink RX3 9 "ColourEcho$Gorge" "off" "[I", Cond.fieldLink RX3 15 "ColourEcho$Gorge" "keeps" "[I", Cond.methodLink RX3 67 yX3_seenAgo, Cond.instanceMethod yX3_seenAgo, Cond.selects RX3 yX3_seenAgo yX3_seenAgo, Cond.code yX3_seenAgo cX3_seenAgo 3 (some .int), Cond.fieldLink RX3 21 "ColourEcho$Gorge" "past" "[I", Cond.static yX6_capped]
def wsX1_noteOver_r2 : List Cond := [Cond.initialized RX6, Cond.code yX6_capped cX6_capped 1 (some .int)]
def wsX1_noteOver : List Cond := .code yX1_noteOver cX1_noteOver 2 none :: ((wsX1_noteOver_r1 ++ wsX1_noteOver_r2) ++ wsX10 ++ wsX30)
def wsX3_wear : List Cond := .code yX3_wear cX3_wear 3 none :: ([.fieldLink RX3 24 "ColourEcho$Gorge" "today" "[I", .fieldLink RX3 43 "ColourEcho$Gorge" "worn" "I", .methodLink RX3 63 yX3_worth, .instanceMethod yX3_worth, .selects RX3 yX3_worth yX3_worth, .initialized RX3, .code yX3_worth cX3_worth 3 (some .int), .fieldLink RX3 18 "ColourEcho$Gorge" "dresses" "[I"] ++ wsX30)
def wsX3_endDay : List Cond := .code yX3_endDay cX3_endDay 5 none :: ([.fieldLink RX3 21 "ColourEcho$Gorge" "past" "[I", .fieldLink RX3 50 "ColourEcho$Gorge" "snow" "Z", .fieldLink RX3 24 "ColourEcho$Gorge" "today" "[I", .fieldLink RX3 40 "ColourEcho$Gorge" "day" "I", .fieldLink RX3 43 "ColourEcho$Gorge" "worn" "I", .fieldLink RX3 46 "ColourEcho$Gorge" "fog" "Z", .methodLink RX3 74 yX3_seenToday, .instanceMethod yX3_seenToday, .selects RX3 yX3_seenToday yX3_seenToday, .initialized RX3, .code yX3_seenToday cX3_seenToday 5 (some .int), .fieldLink RX3 9 "ColourEcho$Gorge" "off" "[I", .fieldLink RX3 15 "ColourEcho$Gorge" "keeps" "[I", .methodLink RX3 67 yX3_seenAgo, .instanceMethod yX3_seenAgo, .selects RX3 yX3_seenAgo yX3_seenAgo, .code yX3_seenAgo cX3_seenAgo 3 (some .int), .static yX6_capped, .initialized RX6, .code yX6_capped cX6_capped 1 (some .int)] ++ wsX30)
def wsX3_act_r1 : List Cond := [Cond.fieldLink RX3 24 "ColourEcho$Gorge" "today" "[I", Cond.fieldLink RX3 46 "ColourEcho$Gorge" "fog" "Z", Cond.fieldLink RX3 50 "ColourEcho$Gorge" "snow" "Z", Cond.fieldLink RX3 15 "ColourEcho$Gorge" "keeps" "[I", Cond.methodLink RX3 82 yX5_colourOf, Cond.static yX5_colourOf, Cond.initialized RX5, Cond.code yX5_colourOf cX5_colourOf 1 (some .int), Cond.methodLink RX3 87 yX5_dressOf, Cond.static yX5_dressOf, Cond.code yX5_dressOf cX5_dressOf 1 (some .int), Cond.methodLink RX3 93 yX3_wear, Cond.instanceMethod yX3_wear, Cond.selects RX3 yX3_wear yX3_wear, Cond.initialized RX3, Cond.code yX3_wear cX3_wear 3 none, Cond.fieldLink RX3 43 "ColourEcho$Gorge" "worn" "I", Cond.methodLink RX3 63 yX3_worth, Cond.instanceMethod yX3_worth, Cond.selects RX3 yX3_worth yX3_worth, Cond.code yX3_worth cX3_worth 3 (some .int), Cond.fieldLink RX3 18 "ColourEcho$Gorge" "dresses" "[I", Cond.methodLink RX3 97 yX3_endDay, Cond.instanceMethod yX3_endDay]
def wsX3_act_r2 : List Cond := [Cond.selects RX3 yX3_endDay yX3_endDay, Cond.code yX3_endDay cX3_endDay 5 none, Cond.fieldLink RX3 21 "ColourEcho$Gorge" "past" "[I", Cond.fieldLink RX3 40 "ColourEcho$Gorge" "day" "I", Cond.methodLink RX3 74 yX3_seenToday, Cond.instanceMethod yX3_seenToday, Cond.selects RX3 yX3_seenToday yX3_seenToday, Cond.code yX3_seenToday cX3_seenToday 5 (some .int), Cond.fieldLink RX3 9 "ColourEcho$Gorge" "off" "[I", Cond.methodLink RX3 67 yX3_seenAgo, Cond.instanceMethod yX3_seenAgo, Cond.selects RX3 yX3_seenAgo yX3_seenAgo, Cond.code yX3_seenAgo cX3_seenAgo 3 (some .int), Cond.static yX6_capped, Cond.initialized RX6, Cond.code yX6_capped cX6_capped 1 (some .int)]
def wsX3_act : List Cond := .code yX3_act cX3_act 5 none :: ((wsX3_act_r1 ++ wsX3_act_r2) ++ wsX30)
def wsX5_lengthAt : List Cond := .code yX5_lengthAt cX5_lengthAt 2 (some .int) :: ([.fieldLink RX5 9 "ColourEcho$Pad" "signs" "[I", .methodLink RX5 30 yX5_takesDigit, .static yX5_takesDigit, .initialized RX5, .code yX5_takesDigit cX5_takesDigit 1 (some .boolean), .methodLink RX5 19 yX5_colourOf, .static yX5_colourOf, .code yX5_colourOf cX5_colourOf 1 (some .int)] ++ wsX50)
def wsX1_play_r1 : List Cond := [Cond.fieldLink RX1 12 "ColourEcho$Days" "end" "LColourEcho$Gorge;", Cond.fieldLink RX1 18 "ColourEcho$Days" "acts" "I", Cond.fieldLink RX1 22 "ColourEcho$Days" "reason" "I", Cond.fieldLink RX1 25 "ColourEcho$Days" "firstOver" "I", Cond.fieldLink RX1 32 "ColourEcho$Pad" "count" "I", Cond.fieldLink RX1 37 "ColourEcho$Pad" "signs" "[I", Cond.fieldLink RX1 49 "ColourEcho$Gorge" "day" "I", Cond.methodLink RX1 28 yX3_become, Cond.instanceMethod yX3_become, Cond.selects RX3 yX3_become yX3_become, Cond.initialized RX3, Cond.code yX3_become cX3_become 2 none, Cond.fieldLink RX3 9 "ColourEcho$Gorge" "off" "[I", Cond.methodLink RX3 53 arraycopyName, Cond.native arraycopyName, Cond.static arraycopyName, Cond.initialized "java/lang/System", Cond.fieldLink RX3 15 "ColourEcho$Gorge" "keeps" "[I", Cond.fieldLink RX3 18 "ColourEcho$Gorge" "dresses" "[I", Cond.fieldLink RX3 21 "ColourEcho$Gorge" "past" "[I", Cond.fieldLink RX3 24 "ColourEcho$Gorge" "today" "[I", Cond.fieldLink RX3 27 "ColourEcho$Gorge" "sightDays" "[I", Cond.fieldLink RX3 30 "ColourEcho$Gorge" "sightAmounts" "[I", Cond.fieldLink RX3 33 "ColourEcho$Gorge" "sights" "I"]
def wsX1_play_r2 : List Cond := [Cond.fieldLink RX3 37 "ColourEcho$Gorge" "most" "I", Cond.fieldLink RX3 40 "ColourEcho$Gorge" "day" "I", Cond.fieldLink RX3 43 "ColourEcho$Gorge" "worn" "I", Cond.fieldLink RX3 46 "ColourEcho$Gorge" "fog" "Z", Cond.fieldLink RX3 50 "ColourEcho$Gorge" "snow" "Z", Cond.methodLink RX1 41 yX5_digitAt, Cond.instanceMethod yX5_digitAt, Cond.selects RX5 yX5_digitAt yX5_digitAt, Cond.initialized RX5, Cond.code yX5_digitAt cX5_digitAt 2 (some .int), Cond.fieldLink RX5 9 "ColourEcho$Pad" "signs" "[I", Cond.fieldLink RX5 15 "ColourEcho$Pad" "count" "I", Cond.methodLink RX5 30 yX5_takesDigit, Cond.static yX5_takesDigit, Cond.code yX5_takesDigit cX5_takesDigit 1 (some .boolean), Cond.methodLink RX5 19 yX5_colourOf, Cond.static yX5_colourOf, Cond.code yX5_colourOf cX5_colourOf 1 (some .int), Cond.methodLink RX1 45 yX3_hindrance, Cond.instanceMethod yX3_hindrance, Cond.selects RX3 yX3_hindrance yX3_hindrance, Cond.code yX3_hindrance cX3_hindrance 5 (some .int), Cond.methodLink RX3 82 yX5_colourOf, Cond.methodLink RX3 87 yX5_dressOf]
def wsX1_play_r3 : List Cond := [Cond.static yX5_dressOf, Cond.code yX5_dressOf cX5_dressOf 1 (some .int), Cond.methodLink RX3 90 yX3_hindranceOfDress, Cond.instanceMethod yX3_hindranceOfDress, Cond.selects RX3 yX3_hindranceOfDress yX3_hindranceOfDress, Cond.code yX3_hindranceOfDress cX3_hindranceOfDress 3 (some .int), Cond.methodLink RX3 63 yX3_worth, Cond.instanceMethod yX3_worth, Cond.selects RX3 yX3_worth yX3_worth, Cond.code yX3_worth cX3_worth 3 (some .int), Cond.static yX6_has, Cond.initialized RX6, Cond.code yX6_has cX6_has 2 (some .boolean), Cond.methodLink RX1 52 yX1_noteOver, Cond.instanceMethod yX1_noteOver, Cond.selects RX1 yX1_noteOver yX1_noteOver, Cond.initialized RX1, Cond.code yX1_noteOver cX1_noteOver 2 none, Cond.methodLink RX1 63 yX3_isOver, Cond.instanceMethod yX3_isOver, Cond.selects RX3 yX3_isOver yX3_isOver, Cond.code yX3_isOver cX3_isOver 1 (some .boolean), Cond.methodLink RX3 74 yX3_seenToday, Cond.instanceMethod yX3_seenToday]
def wsX1_play_r4 : List Cond := [Cond.selects RX3 yX3_seenToday yX3_seenToday, Cond.code yX3_seenToday cX3_seenToday 5 (some .int), Cond.methodLink RX3 67 yX3_seenAgo, Cond.instanceMethod yX3_seenAgo, Cond.selects RX3 yX3_seenAgo yX3_seenAgo, Cond.code yX3_seenAgo cX3_seenAgo 3 (some .int), Cond.static yX6_capped, Cond.code yX6_capped cX6_capped 1 (some .int), Cond.methodLink RX1 56 yX3_act, Cond.instanceMethod yX3_act, Cond.selects RX3 yX3_act yX3_act, Cond.code yX3_act cX3_act 5 none, Cond.methodLink RX3 93 yX3_wear, Cond.instanceMethod yX3_wear, Cond.selects RX3 yX3_wear yX3_wear, Cond.code yX3_wear cX3_wear 3 none, Cond.methodLink RX3 97 yX3_endDay, Cond.instanceMethod yX3_endDay, Cond.selects RX3 yX3_endDay yX3_endDay, Cond.code yX3_endDay cX3_endDay 5 none, Cond.methodLink RX1 60 yX5_lengthAt, Cond.instanceMethod yX5_lengthAt, Cond.selects RX5 yX5_lengthAt yX5_lengthAt, Cond.code yX5_lengthAt cX5_lengthAt 2 (some .int)]
def wsX1_play : List Cond := .code yX1_play cX1_play 6 none :: ((wsX1_play_r1 ++ (wsX1_play_r2 ++ (wsX1_play_r3 ++ wsX1_play_r4))) ++ wsX10 ++ wsX50 ++ wsX30)
def wsX2_init : List Cond := .code yX2_init cX2_init 1 none :: ([.methodLink RX2 3 objectInit, .instanceMethod objectInit, .code objectInit ⟨#[0xb1]⟩ 1 none, .arrayClass .int, .fieldLink RX2 9 "ColourEcho$Game" "best" "[I", .fieldLink RX2 15 "ColourEcho$Game" "choice" "[I", .fieldLink RX2 18 "ColourEcho$Game" "whole" "I"] ++ wsX20)
def wsX3_worthOfSet : List Cond := .code yX3_worthOfSet cX3_worthOfSet 5 (some .int) :: ([.static yX6_has, .initialized RX6, .code yX6_has cX6_has 2 (some .boolean), .methodLink RX3 63 yX3_worth, .instanceMethod yX3_worth, .selects RX3 yX3_worth yX3_worth, .initialized RX3, .code yX3_worth cX3_worth 3 (some .int), .fieldLink RX3 18 "ColourEcho$Gorge" "dresses" "[I"] ++ wsX30)
def wsX2_loses_r1 : List Cond := [Cond.fieldLink RX2 43 "ColourEcho$Gorge" "most" "I", Cond.methodLink RX2 34 yX3_worthOfSet, Cond.instanceMethod yX3_worthOfSet, Cond.selects RX3 yX3_worthOfSet yX3_worthOfSet, Cond.initialized RX3, Cond.code yX3_worthOfSet cX3_worthOfSet 5 (some .int), Cond.static yX6_has, Cond.initialized RX6, Cond.code yX6_has cX6_has 2 (some .boolean), Cond.methodLink RX3 63 yX3_worth, Cond.instanceMethod yX3_worth, Cond.selects RX3 yX3_worth yX3_worth, Cond.code yX3_worth cX3_worth 3 (some .int), Cond.fieldLink RX3 18 "ColourEcho$Gorge" "dresses" "[I", Cond.methodLink RX2 40 yX3_seenToday, Cond.instanceMethod yX3_seenToday, Cond.selects RX3 yX3_seenToday yX3_seenToday, Cond.code yX3_seenToday cX3_seenToday 5 (some .int), Cond.fieldLink RX3 24 "ColourEcho$Gorge" "today" "[I", Cond.fieldLink RX3 46 "ColourEcho$Gorge" "fog" "Z", Cond.fieldLink RX3 50 "ColourEcho$Gorge" "snow" "Z", Cond.fieldLink RX3 9 "ColourEcho$Gorge" "off" "[I", Cond.fieldLink RX3 15 "ColourEcho$Gorge" "keeps" "[I", Cond.methodLink RX3 67 yX3_seenAgo]
def wsX2_loses_r2 : List Cond := [Cond.instanceMethod yX3_seenAgo, Cond.selects RX3 yX3_seenAgo yX3_seenAgo, Cond.code yX3_seenAgo cX3_seenAgo 3 (some .int), Cond.fieldLink RX3 21 "ColourEcho$Gorge" "past" "[I", Cond.static yX6_capped, Cond.code yX6_capped cX6_capped 1 (some .int)]
def wsX2_loses : List Cond := .code yX2_loses cX2_loses 4 (some .boolean) :: ((wsX2_loses_r1 ++ wsX2_loses_r2) ++ wsX30)
def wsX2_solveLeft_r1 : List Cond := [Cond.fieldLink RX2 9 "ColourEcho$Game" "best" "[I", Cond.fieldLink RX2 15 "ColourEcho$Game" "choice" "[I", Cond.fieldLink RX2 18 "ColourEcho$Game" "whole" "I", Cond.static yX6_has, Cond.initialized RX6, Cond.code yX6_has cX6_has 2 (some .boolean), Cond.methodLink RX2 30 yX2_loses, Cond.instanceMethod yX2_loses, Cond.selects RX2 yX2_loses yX2_loses, Cond.initialized RX2, Cond.code yX2_loses cX2_loses 4 (some .boolean), Cond.fieldLink RX2 43 "ColourEcho$Gorge" "most" "I", Cond.methodLink RX2 34 yX3_worthOfSet, Cond.instanceMethod yX3_worthOfSet, Cond.selects RX3 yX3_worthOfSet yX3_worthOfSet, Cond.initialized RX3, Cond.code yX3_worthOfSet cX3_worthOfSet 5 (some .int), Cond.methodLink RX3 63 yX3_worth, Cond.instanceMethod yX3_worth, Cond.selects RX3 yX3_worth yX3_worth, Cond.code yX3_worth cX3_worth 3 (some .int), Cond.fieldLink RX3 18 "ColourEcho$Gorge" "dresses" "[I", Cond.methodLink RX2 40 yX3_seenToday, Cond.instanceMethod yX3_seenToday]
def wsX2_solveLeft_r2 : List Cond := [Cond.selects RX3 yX3_seenToday yX3_seenToday, Cond.code yX3_seenToday cX3_seenToday 5 (some .int), Cond.fieldLink RX3 24 "ColourEcho$Gorge" "today" "[I", Cond.fieldLink RX3 46 "ColourEcho$Gorge" "fog" "Z", Cond.fieldLink RX3 50 "ColourEcho$Gorge" "snow" "Z", Cond.fieldLink RX3 9 "ColourEcho$Gorge" "off" "[I", Cond.fieldLink RX3 15 "ColourEcho$Gorge" "keeps" "[I", Cond.methodLink RX3 67 yX3_seenAgo, Cond.instanceMethod yX3_seenAgo, Cond.selects RX3 yX3_seenAgo yX3_seenAgo, Cond.code yX3_seenAgo cX3_seenAgo 3 (some .int), Cond.fieldLink RX3 21 "ColourEcho$Gorge" "past" "[I", Cond.static yX6_capped, Cond.code yX6_capped cX6_capped 1 (some .int)]
def wsX2_solveLeft : List Cond := .code yX2_solveLeft cX2_solveLeft 6 none :: ((wsX2_solveLeft_r1 ++ wsX2_solveLeft_r2) ++ wsX20 ++ wsX30)
def wsX2_solve_r1 : List Cond := [Cond.fieldLink RX2 18 "ColourEcho$Game" "whole" "I", Cond.fieldLink RX2 9 "ColourEcho$Game" "best" "[I", Cond.fieldLink RX2 15 "ColourEcho$Game" "choice" "[I", Cond.methodLink RX2 22 yX2_solveLeft, Cond.instanceMethod yX2_solveLeft, Cond.selects RX2 yX2_solveLeft yX2_solveLeft, Cond.initialized RX2, Cond.code yX2_solveLeft cX2_solveLeft 6 none, Cond.static yX6_has, Cond.initialized RX6, Cond.code yX6_has cX6_has 2 (some .boolean), Cond.methodLink RX2 30 yX2_loses, Cond.instanceMethod yX2_loses, Cond.selects RX2 yX2_loses yX2_loses, Cond.code yX2_loses cX2_loses 4 (some .boolean), Cond.fieldLink RX2 43 "ColourEcho$Gorge" "most" "I", Cond.methodLink RX2 34 yX3_worthOfSet, Cond.instanceMethod yX3_worthOfSet, Cond.selects RX3 yX3_worthOfSet yX3_worthOfSet, Cond.initialized RX3, Cond.code yX3_worthOfSet cX3_worthOfSet 5 (some .int), Cond.methodLink RX3 63 yX3_worth, Cond.instanceMethod yX3_worth, Cond.selects RX3 yX3_worth yX3_worth]
def wsX2_solve_r2 : List Cond := [Cond.code yX3_worth cX3_worth 3 (some .int), Cond.fieldLink RX3 18 "ColourEcho$Gorge" "dresses" "[I", Cond.methodLink RX2 40 yX3_seenToday, Cond.instanceMethod yX3_seenToday, Cond.selects RX3 yX3_seenToday yX3_seenToday, Cond.code yX3_seenToday cX3_seenToday 5 (some .int), Cond.fieldLink RX3 24 "ColourEcho$Gorge" "today" "[I", Cond.fieldLink RX3 46 "ColourEcho$Gorge" "fog" "Z", Cond.fieldLink RX3 50 "ColourEcho$Gorge" "snow" "Z", Cond.fieldLink RX3 9 "ColourEcho$Gorge" "off" "[I", Cond.fieldLink RX3 15 "ColourEcho$Gorge" "keeps" "[I", Cond.methodLink RX3 67 yX3_seenAgo, Cond.instanceMethod yX3_seenAgo, Cond.selects RX3 yX3_seenAgo yX3_seenAgo, Cond.code yX3_seenAgo cX3_seenAgo 3 (some .int), Cond.fieldLink RX3 21 "ColourEcho$Gorge" "past" "[I", Cond.static yX6_capped, Cond.code yX6_capped cX6_capped 1 (some .int)]
def wsX2_solve : List Cond := .code yX2_solve cX2_solve 4 none :: ((wsX2_solve_r1 ++ wsX2_solve_r2) ++ wsX20 ++ wsX30)
def wsX2_winner : List Cond := .code yX2_winner cX2_winner 1 (some .int) :: ([.fieldLink RX2 9 "ColourEcho$Game" "best" "[I", .fieldLink RX2 18 "ColourEcho$Game" "whole" "I"] ++ wsX20)
def wsX2_opening : List Cond := .code yX2_opening cX2_opening 1 (some .int) :: ([.fieldLink RX2 15 "ColourEcho$Game" "choice" "[I", .fieldLink RX2 18 "ColourEcho$Game" "whole" "I"] ++ wsX20)
def wsX3_mostSeen : List Cond := .code yX3_mostSeen cX3_mostSeen 1 (some .int) :: ([.methodLink RX3 77 Lib.Math.max.name, .static Lib.Math.max.name, .initialized "java/lang/Math", .code Lib.Math.max.name Lib.Math.max.code 2 (some .int), .methodLink RX3 74 yX3_seenToday, .instanceMethod yX3_seenToday, .selects RX3 yX3_seenToday yX3_seenToday, .initialized RX3, .code yX3_seenToday cX3_seenToday 5 (some .int), .fieldLink RX3 24 "ColourEcho$Gorge" "today" "[I", .fieldLink RX3 46 "ColourEcho$Gorge" "fog" "Z", .fieldLink RX3 50 "ColourEcho$Gorge" "snow" "Z", .fieldLink RX3 9 "ColourEcho$Gorge" "off" "[I", .fieldLink RX3 15 "ColourEcho$Gorge" "keeps" "[I", .methodLink RX3 67 yX3_seenAgo, .instanceMethod yX3_seenAgo, .selects RX3 yX3_seenAgo yX3_seenAgo, .code yX3_seenAgo cX3_seenAgo 3 (some .int), .fieldLink RX3 21 "ColourEcho$Gorge" "past" "[I", .static yX6_capped, .initialized RX6, .code yX6_capped cX6_capped 1 (some .int)] ++ wsX30)
def wsX3_draw : List Cond := .code yX3_draw cX3_draw 2 none :: ([.fieldLink RX3 46 "ColourEcho$Gorge" "fog" "Z", .fieldLink RX3 50 "ColourEcho$Gorge" "snow" "Z", .fieldLink RX3 24 "ColourEcho$Gorge" "today" "[I"] ++ wsX30)
def wsX4_init : List Cond := .code yX4_init cX4_init 1 none :: ([.methodLink RX4 3 objectInit, .instanceMethod objectInit, .code objectInit ⟨#[0xb1]⟩ 1 none, .arrayClass .int, .fieldLink RX4 9 "ColourEcho$Guesses" "echo" "[I", .fieldLink RX4 15 "ColourEcho$Guesses" "fitting" "[I", .fieldLink RX4 18 "ColourEcho$Guesses" "tally" "[I", .fieldLink RX4 21 "ColourEcho$Guesses" "count" "I"] ++ wsX40)
def wsX4_fillEcho_r1 : List Cond := [Cond.fieldLink RX4 9 "ColourEcho$Guesses" "echo" "[I", Cond.methodLink RX4 33 yX0_fromNothing, Cond.instanceMethod yX0_fromNothing, Cond.selects RX0 yX0_fromNothing yX0_fromNothing, Cond.initialized RX0, Cond.code yX0_fromNothing cX0_fromNothing 3 none, Cond.fieldLink RX0 11 "ColourEcho$Course" "row" "[I", Cond.static yX6_capped, Cond.initialized RX6, Cond.code yX6_capped cX6_capped 1 (some .int), Cond.methodLink RX4 39 yX0_run, Cond.instanceMethod yX0_run, Cond.selects RX0 yX0_run yX0_run, Cond.code yX0_run cX0_run 6 none, Cond.static yX6_has, Cond.code yX6_has cX6_has 2 (some .boolean), Cond.methodLink RX0 36 yX0_offWalls, Cond.instanceMethod yX0_offWalls, Cond.selects RX0 yX0_offWalls yX0_offWalls, Cond.code yX0_offWalls cX0_offWalls 5 (some .int), Cond.fieldLink RX0 40 "ColourEcho$Gorge" "off" "[I", Cond.fieldLink RX0 43 "ColourEcho$Gorge" "keeps" "[I", Cond.methodLink RX4 43 yX0_at, Cond.instanceMethod yX0_at]
def wsX4_fillEcho_r2 : List Cond := [Cond.selects RX0 yX0_at yX0_at, Cond.code yX0_at cX0_at 2 (some .int)]
def wsX4_fillEcho : List Cond := .code yX4_fillEcho cX4_fillEcho 5 none :: ((wsX4_fillEcho_r1 ++ wsX4_fillEcho_r2) ++ wsX40 ++ wsX00 ++ wsX30)
def wsX4_seenBy : List Cond := .code yX4_seenBy cX4_seenBy 4 (some .int) :: ([.fieldLink RX4 9 "ColourEcho$Guesses" "echo" "[I"] ++ wsX40)
def wsX4_fits : List Cond := .code yX4_fits cX4_fits 4 (some .boolean) :: ([.fieldLink RX4 47 "ColourEcho$Gorge" "sights" "I", .fieldLink RX4 52 "ColourEcho$Gorge" "sightDays" "[I", .fieldLink RX4 59 "ColourEcho$Gorge" "sightAmounts" "[I", .methodLink RX4 55 yX4_seenBy, .instanceMethod yX4_seenBy, .selects RX4 yX4_seenBy yX4_seenBy, .initialized RX4, .code yX4_seenBy cX4_seenBy 4 (some .int), .fieldLink RX4 9 "ColourEcho$Guesses" "echo" "[I"] ++ wsX30 ++ wsX40)
def wsX4_gather_r1 : List Cond := [Cond.fieldLink RX4 21 "ColourEcho$Guesses" "count" "I", Cond.fieldLink RX4 15 "ColourEcho$Guesses" "fitting" "[I", Cond.methodLink RX4 25 yX4_fillEcho, Cond.instanceMethod yX4_fillEcho, Cond.selects RX4 yX4_fillEcho yX4_fillEcho, Cond.initialized RX4, Cond.code yX4_fillEcho cX4_fillEcho 5 none, Cond.fieldLink RX4 9 "ColourEcho$Guesses" "echo" "[I", Cond.methodLink RX4 33 yX0_fromNothing, Cond.instanceMethod yX0_fromNothing, Cond.selects RX0 yX0_fromNothing yX0_fromNothing, Cond.initialized RX0, Cond.code yX0_fromNothing cX0_fromNothing 3 none, Cond.fieldLink RX0 11 "ColourEcho$Course" "row" "[I", Cond.static yX6_capped, Cond.initialized RX6, Cond.code yX6_capped cX6_capped 1 (some .int), Cond.methodLink RX4 39 yX0_run, Cond.instanceMethod yX0_run, Cond.selects RX0 yX0_run yX0_run, Cond.code yX0_run cX0_run 6 none, Cond.static yX6_has, Cond.code yX6_has cX6_has 2 (some .boolean), Cond.methodLink RX0 36 yX0_offWalls]
def wsX4_gather_r2 : List Cond := [Cond.instanceMethod yX0_offWalls, Cond.selects RX0 yX0_offWalls yX0_offWalls, Cond.code yX0_offWalls cX0_offWalls 5 (some .int), Cond.fieldLink RX0 40 "ColourEcho$Gorge" "off" "[I", Cond.fieldLink RX0 43 "ColourEcho$Gorge" "keeps" "[I", Cond.methodLink RX4 43 yX0_at, Cond.instanceMethod yX0_at, Cond.selects RX0 yX0_at yX0_at, Cond.code yX0_at cX0_at 2 (some .int), Cond.methodLink RX4 29 yX4_fits, Cond.instanceMethod yX4_fits, Cond.selects RX4 yX4_fits yX4_fits, Cond.code yX4_fits cX4_fits 4 (some .boolean), Cond.fieldLink RX4 47 "ColourEcho$Gorge" "sights" "I", Cond.fieldLink RX4 52 "ColourEcho$Gorge" "sightDays" "[I", Cond.fieldLink RX4 59 "ColourEcho$Gorge" "sightAmounts" "[I", Cond.methodLink RX4 55 yX4_seenBy, Cond.instanceMethod yX4_seenBy, Cond.selects RX4 yX4_seenBy yX4_seenBy, Cond.code yX4_seenBy cX4_seenBy 4 (some .int)]
def wsX4_gather : List Cond := .code yX4_gather cX4_gather 5 none :: ((wsX4_gather_r1 ++ wsX4_gather_r2) ++ wsX40 ++ wsX00 ++ wsX30)
def wsX4_mostLeft : List Cond := .code yX4_mostLeft cX4_mostLeft 5 (some .int) :: ([.fieldLink RX4 21 "ColourEcho$Guesses" "count" "I", .fieldLink RX4 15 "ColourEcho$Guesses" "fitting" "[I", .fieldLink RX4 18 "ColourEcho$Guesses" "tally" "[I", .methodLink RX4 62 Lib.Math.max.name, .static Lib.Math.max.name, .initialized "java/lang/Math", .code Lib.Math.max.name Lib.Math.max.code 2 (some .int), .methodLink RX4 55 yX4_seenBy, .instanceMethod yX4_seenBy, .selects RX4 yX4_seenBy yX4_seenBy, .initialized RX4, .code yX4_seenBy cX4_seenBy 4 (some .int), .fieldLink RX4 9 "ColourEcho$Guesses" "echo" "[I"] ++ wsX40)
def wsX5_init : List Cond := .code yX5_init cX5_init 1 none :: ([.methodLink RX5 3 objectInit, .instanceMethod objectInit, .code objectInit ⟨#[0xb1]⟩ 1 none, .arrayClass .int, .fieldLink RX5 9 "ColourEcho$Pad" "signs" "[I", .fieldLink RX5 15 "ColourEcho$Pad" "count" "I"] ++ wsX50)
def wsX5_standsAlone : List Cond := .code yX5_standsAlone cX5_standsAlone 1 (some .boolean) :: ([.methodLink RX5 23 yX5_dressOf, .static yX5_dressOf, .initialized RX5, .code yX5_dressOf cX5_dressOf 1 (some .int)])
def wsX6_isWithin : List Cond := .code yX6_isWithin cX6_isWithin 3 (some .boolean) :: ([])
def wsX5_isDigitOf : List Cond := .code yX5_isDigitOf cX5_isDigitOf 2 (some .boolean) :: ([.static yX6_isWithin, .initialized RX6, .code yX6_isWithin cX6_isWithin 3 (some .boolean)])
def wsX5_faultPlace_r1 : List Cond := [Cond.fieldLink RX5 15 "ColourEcho$Pad" "count" "I", Cond.fieldLink RX5 9 "ColourEcho$Pad" "signs" "[I", Cond.methodLink RX5 30 yX5_takesDigit, Cond.static yX5_takesDigit, Cond.initialized RX5, Cond.code yX5_takesDigit cX5_takesDigit 1 (some .boolean), Cond.methodLink RX5 19 yX5_colourOf, Cond.static yX5_colourOf, Cond.code yX5_colourOf cX5_colourOf 1 (some .int), Cond.methodLink RX5 34 yX5_isDigitOf, Cond.static yX5_isDigitOf, Cond.code yX5_isDigitOf cX5_isDigitOf 2 (some .boolean), Cond.static yX6_isWithin, Cond.initialized RX6, Cond.code yX6_isWithin cX6_isWithin 3 (some .boolean), Cond.methodLink RX5 38 yX5_standsAlone, Cond.static yX5_standsAlone, Cond.code yX5_standsAlone cX5_standsAlone 1 (some .boolean), Cond.methodLink RX5 23 yX5_dressOf, Cond.static yX5_dressOf, Cond.code yX5_dressOf cX5_dressOf 1 (some .int), Cond.methodLink RX5 41 yX5_lengthAt, Cond.instanceMethod yX5_lengthAt, Cond.selects RX5 yX5_lengthAt yX5_lengthAt]
def wsX5_faultPlace_r2 : List Cond := [Cond.code yX5_lengthAt cX5_lengthAt 2 (some .int)]
def wsX5_faultPlace : List Cond := .code yX5_faultPlace cX5_faultPlace 3 (some .int) :: ((wsX5_faultPlace_r1 ++ wsX5_faultPlace_r2) ++ wsX50)
def wsX6_init_r1 : List Cond := [Cond.methodLink RX6 3 objectInit, Cond.instanceMethod objectInit, Cond.code objectInit ⟨#[0xb1]⟩ 1 none, Cond.classLink RX6 9 RX3, Cond.instantiable RX3 13, Cond.initialized RX3, Cond.fieldLink RX6 12 "ColourEcho" "gorge" "LColourEcho$Gorge;", Cond.fieldLink RX6 16 "ColourEcho" "scratch" "LColourEcho$Gorge;", Cond.classLink RX6 19 RX5, Cond.instantiable RX5 2, Cond.initialized RX5, Cond.fieldLink RX6 22 "ColourEcho" "pad" "LColourEcho$Pad;", Cond.classLink RX6 26 RX1, Cond.instantiable RX1 4, Cond.initialized RX1, Cond.fieldLink RX6 29 "ColourEcho" "days" "LColourEcho$Days;", Cond.classLink RX6 33 RX0, Cond.instantiable RX0 1, Cond.initialized RX0, Cond.fieldLink RX6 36 "ColourEcho" "course" "LColourEcho$Course;", Cond.classLink RX6 40 RX4, Cond.instantiable RX4 4, Cond.initialized RX4, Cond.fieldLink RX6 43 "ColourEcho" "guesses" "LColourEcho$Guesses;"]
def wsX6_init_r2 : List Cond := [Cond.classLink RX6 47 RX2, Cond.instantiable RX2 3, Cond.initialized RX2, Cond.fieldLink RX6 50 "ColourEcho" "game" "LColourEcho$Game;", Cond.fieldLink RX6 54 "ColourEcho" "image0" "LColourEcho$Gorge;", Cond.fieldLink RX6 57 "ColourEcho" "image1" "LColourEcho$Gorge;", Cond.arrayClass .boolean, Cond.fieldLink RX6 60 "ColourEcho" "kept" "[Z", Cond.arrayClass .int, Cond.fieldLink RX6 64 "ColourEcho" "echoes" "[I", Cond.instanceMethod yX3_init, Cond.code yX3_init cX3_init 1 none, Cond.methodLink RX3 3 objectInit, Cond.fieldLink RX3 9 "ColourEcho$Gorge" "off" "[I", Cond.fieldLink RX3 15 "ColourEcho$Gorge" "keeps" "[I", Cond.fieldLink RX3 18 "ColourEcho$Gorge" "dresses" "[I", Cond.fieldLink RX3 21 "ColourEcho$Gorge" "past" "[I", Cond.fieldLink RX3 24 "ColourEcho$Gorge" "today" "[I", Cond.fieldLink RX3 27 "ColourEcho$Gorge" "sightDays" "[I", Cond.fieldLink RX3 30 "ColourEcho$Gorge" "sightAmounts" "[I", Cond.fieldLink RX3 33 "ColourEcho$Gorge" "sights" "I", Cond.fieldLink RX3 37 "ColourEcho$Gorge" "most" "I", Cond.fieldLink RX3 40 "ColourEcho$Gorge" "day" "I", Cond.fieldLink RX3 43 "ColourEcho$Gorge" "worn" "I"]
def wsX6_init_r3 : List Cond := [Cond.fieldLink RX3 46 "ColourEcho$Gorge" "fog" "Z", Cond.fieldLink RX3 50 "ColourEcho$Gorge" "snow" "Z", Cond.instanceMethod yX5_init, Cond.code yX5_init cX5_init 1 none, Cond.methodLink RX5 3 objectInit, Cond.fieldLink RX5 9 "ColourEcho$Pad" "signs" "[I", Cond.fieldLink RX5 15 "ColourEcho$Pad" "count" "I", Cond.instanceMethod yX1_init, Cond.code yX1_init cX1_init 1 none, Cond.methodLink RX1 3 objectInit, Cond.classLink RX1 9 RX3, Cond.fieldLink RX1 12 "ColourEcho$Days" "end" "LColourEcho$Gorge;", Cond.fieldLink RX1 18 "ColourEcho$Days" "acts" "I", Cond.fieldLink RX1 22 "ColourEcho$Days" "reason" "I", Cond.fieldLink RX1 25 "ColourEcho$Days" "firstOver" "I", Cond.instanceMethod yX0_init, Cond.code yX0_init cX0_init 1 none, Cond.methodLink RX0 3 objectInit, Cond.fieldLink RX0 11 "ColourEcho$Course" "row" "[I", Cond.instanceMethod yX4_init, Cond.code yX4_init cX4_init 1 none, Cond.methodLink RX4 3 objectInit, Cond.fieldLink RX4 9 "ColourEcho$Guesses" "echo" "[I", Cond.fieldLink RX4 15 "ColourEcho$Guesses" "fitting" "[I"]
def wsX6_init_r4 : List Cond := [Cond.fieldLink RX4 18 "ColourEcho$Guesses" "tally" "[I", Cond.fieldLink RX4 21 "ColourEcho$Guesses" "count" "I", Cond.instanceMethod yX2_init, Cond.code yX2_init cX2_init 1 none, Cond.methodLink RX2 3 objectInit, Cond.fieldLink RX2 9 "ColourEcho$Game" "best" "[I", Cond.fieldLink RX2 15 "ColourEcho$Game" "choice" "[I", Cond.fieldLink RX2 18 "ColourEcho$Game" "whole" "I"]
def wsX6_init : List Cond := .code yX6_init cX6_init 1 none :: ((wsX6_init_r1 ++ (wsX6_init_r2 ++ (wsX6_init_r3 ++ wsX6_init_r4))) ++ wsX30 ++ wsX60 ++ wsX50 ++ wsX10 ++ wsX00 ++ wsX40 ++ wsX20)
def wsX6_wall : List Cond := .code yX6_wall cX6_wall 5 (some .int) :: ([.fieldLink RX6 12 "ColourEcho" "gorge" "LColourEcho$Gorge;", .fieldLink RX6 72 "ColourEcho$Gorge" "keeps" "[I", .fieldLink RX6 75 "ColourEcho$Gorge" "off" "[I", .methodLink RX6 68 yX6_isWithin, .static yX6_isWithin, .initialized RX6, .code yX6_isWithin cX6_isWithin 3 (some .boolean)] ++ wsX60 ++ wsX30)
def wsX6_isDress : List Cond := .code yX6_isDress cX6_isDress 1 (some .boolean) :: ([.methodLink RX6 68 yX6_isWithin, .static yX6_isWithin, .initialized RX6, .code yX6_isWithin cX6_isWithin 3 (some .boolean)])
def wsX6_dress : List Cond := .code yX6_dress cX6_dress 6 (some .int) :: ([.fieldLink RX6 12 "ColourEcho" "gorge" "LColourEcho$Gorge;", .fieldLink RX6 86 "ColourEcho$Gorge" "dresses" "[I", .methodLink RX6 78 yX6_isDress, .static yX6_isDress, .initialized RX6, .code yX6_isDress cX6_isDress 1 (some .boolean), .methodLink RX6 68 yX6_isWithin, .static yX6_isWithin, .code yX6_isWithin cX6_isWithin 3 (some .boolean), .methodLink RX6 82 yX3_worth, .instanceMethod yX3_worth, .selects RX3 yX3_worth yX3_worth, .initialized RX3, .code yX3_worth cX3_worth 3 (some .int), .fieldLink RX3 18 "ColourEcho$Gorge" "dresses" "[I"] ++ wsX60 ++ wsX30)
def wsX6_isAmount : List Cond := .code yX6_isAmount cX6_isAmount 1 (some .boolean) :: ([.methodLink RX6 68 yX6_isWithin, .static yX6_isWithin, .initialized RX6, .code yX6_isWithin cX6_isWithin 3 (some .boolean)])
def wsX6_limit : List Cond := .code yX6_limit cX6_limit 3 (some .int) :: ([.fieldLink RX6 12 "ColourEcho" "gorge" "LColourEcho$Gorge;", .fieldLink RX6 92 "ColourEcho$Gorge" "most" "I", .methodLink RX6 89 yX6_isAmount, .static yX6_isAmount, .initialized RX6, .code yX6_isAmount cX6_isAmount 1 (some .boolean), .methodLink RX6 68 yX6_isWithin, .static yX6_isWithin, .code yX6_isWithin cX6_isWithin 3 (some .boolean)] ++ wsX60 ++ wsX30)
def wsX6_say : List Cond := .code yX6_say cX6_say 2 (some .int) :: ([.fieldLink RX6 22 "ColourEcho" "pad" "LColourEcho$Pad;", .fieldLink RX6 96 "ColourEcho$Pad" "count" "I", .fieldLink RX6 99 "ColourEcho$Pad" "signs" "[I", .methodLink RX6 68 yX6_isWithin, .static yX6_isWithin, .initialized RX6, .code yX6_isWithin cX6_isWithin 3 (some .boolean)] ++ wsX60 ++ wsX50)
def wsX6_wipe : List Cond := .code yX6_wipe cX6_wipe 2 (some .int) :: ([.fieldLink RX6 22 "ColourEcho" "pad" "LColourEcho$Pad;", .fieldLink RX6 96 "ColourEcho$Pad" "count" "I"] ++ wsX60 ++ wsX50)
def wsX6_fault_r1 : List Cond := [Cond.fieldLink RX6 22 "ColourEcho" "pad" "LColourEcho$Pad;", Cond.methodLink RX6 102 yX5_faultPlace, Cond.instanceMethod yX5_faultPlace, Cond.selects RX5 yX5_faultPlace yX5_faultPlace, Cond.initialized RX5, Cond.code yX5_faultPlace cX5_faultPlace 3 (some .int), Cond.fieldLink RX5 15 "ColourEcho$Pad" "count" "I", Cond.fieldLink RX5 9 "ColourEcho$Pad" "signs" "[I", Cond.methodLink RX5 30 yX5_takesDigit, Cond.static yX5_takesDigit, Cond.code yX5_takesDigit cX5_takesDigit 1 (some .boolean), Cond.methodLink RX5 19 yX5_colourOf, Cond.static yX5_colourOf, Cond.code yX5_colourOf cX5_colourOf 1 (some .int), Cond.methodLink RX5 34 yX5_isDigitOf, Cond.static yX5_isDigitOf, Cond.code yX5_isDigitOf cX5_isDigitOf 2 (some .boolean), Cond.static yX6_isWithin, Cond.initialized RX6, Cond.code yX6_isWithin cX6_isWithin 3 (some .boolean), Cond.methodLink RX5 38 yX5_standsAlone, Cond.static yX5_standsAlone, Cond.code yX5_standsAlone cX5_standsAlone 1 (some .boolean), Cond.methodLink RX5 23 yX5_dressOf]
def wsX6_fault_r2 : List Cond := [Cond.static yX5_dressOf, Cond.code yX5_dressOf cX5_dressOf 1 (some .int), Cond.methodLink RX5 41 yX5_lengthAt, Cond.instanceMethod yX5_lengthAt, Cond.selects RX5 yX5_lengthAt yX5_lengthAt, Cond.code yX5_lengthAt cX5_lengthAt 2 (some .int)]
def wsX6_fault : List Cond := .code yX6_fault cX6_fault 1 (some .int) :: ((wsX6_fault_r1 ++ wsX6_fault_r2) ++ wsX60 ++ wsX50)
def wsX6_judge_r1 : List Cond := [Cond.fieldLink RX6 22 "ColourEcho" "pad" "LColourEcho$Pad;", Cond.fieldLink RX6 29 "ColourEcho" "days" "LColourEcho$Days;", Cond.fieldLink RX6 12 "ColourEcho" "gorge" "LColourEcho$Gorge;", Cond.fieldLink RX6 110 "ColourEcho$Days" "reason" "I", Cond.fieldLink RX6 113 "ColourEcho$Days" "acts" "I", Cond.methodLink RX6 68 yX6_isWithin, Cond.static yX6_isWithin, Cond.initialized RX6, Cond.code yX6_isWithin cX6_isWithin 3 (some .boolean), Cond.methodLink RX6 102 yX5_faultPlace, Cond.instanceMethod yX5_faultPlace, Cond.selects RX5 yX5_faultPlace yX5_faultPlace, Cond.initialized RX5, Cond.code yX5_faultPlace cX5_faultPlace 3 (some .int), Cond.fieldLink RX5 15 "ColourEcho$Pad" "count" "I", Cond.fieldLink RX5 9 "ColourEcho$Pad" "signs" "[I", Cond.methodLink RX5 30 yX5_takesDigit, Cond.static yX5_takesDigit, Cond.code yX5_takesDigit cX5_takesDigit 1 (some .boolean), Cond.methodLink RX5 19 yX5_colourOf, Cond.static yX5_colourOf, Cond.code yX5_colourOf cX5_colourOf 1 (some .int), Cond.methodLink RX5 34 yX5_isDigitOf, Cond.static yX5_isDigitOf]
def wsX6_judge_r2 : List Cond := [Cond.code yX5_isDigitOf cX5_isDigitOf 2 (some .boolean), Cond.methodLink RX5 38 yX5_standsAlone, Cond.static yX5_standsAlone, Cond.code yX5_standsAlone cX5_standsAlone 1 (some .boolean), Cond.methodLink RX5 23 yX5_dressOf, Cond.static yX5_dressOf, Cond.code yX5_dressOf cX5_dressOf 1 (some .int), Cond.methodLink RX5 41 yX5_lengthAt, Cond.instanceMethod yX5_lengthAt, Cond.selects RX5 yX5_lengthAt yX5_lengthAt, Cond.code yX5_lengthAt cX5_lengthAt 2 (some .int), Cond.methodLink RX6 106 yX1_play, Cond.instanceMethod yX1_play, Cond.selects RX1 yX1_play yX1_play, Cond.initialized RX1, Cond.code yX1_play cX1_play 6 none, Cond.fieldLink RX1 12 "ColourEcho$Days" "end" "LColourEcho$Gorge;", Cond.fieldLink RX1 18 "ColourEcho$Days" "acts" "I", Cond.fieldLink RX1 22 "ColourEcho$Days" "reason" "I", Cond.fieldLink RX1 25 "ColourEcho$Days" "firstOver" "I", Cond.fieldLink RX1 32 "ColourEcho$Pad" "count" "I", Cond.fieldLink RX1 37 "ColourEcho$Pad" "signs" "[I", Cond.fieldLink RX1 49 "ColourEcho$Gorge" "day" "I", Cond.methodLink RX1 28 yX3_become]
def wsX6_judge_r3 : List Cond := [Cond.instanceMethod yX3_become, Cond.selects RX3 yX3_become yX3_become, Cond.initialized RX3, Cond.code yX3_become cX3_become 2 none, Cond.fieldLink RX3 9 "ColourEcho$Gorge" "off" "[I", Cond.methodLink RX3 53 arraycopyName, Cond.native arraycopyName, Cond.static arraycopyName, Cond.initialized "java/lang/System", Cond.fieldLink RX3 15 "ColourEcho$Gorge" "keeps" "[I", Cond.fieldLink RX3 18 "ColourEcho$Gorge" "dresses" "[I", Cond.fieldLink RX3 21 "ColourEcho$Gorge" "past" "[I", Cond.fieldLink RX3 24 "ColourEcho$Gorge" "today" "[I", Cond.fieldLink RX3 27 "ColourEcho$Gorge" "sightDays" "[I", Cond.fieldLink RX3 30 "ColourEcho$Gorge" "sightAmounts" "[I", Cond.fieldLink RX3 33 "ColourEcho$Gorge" "sights" "I", Cond.fieldLink RX3 37 "ColourEcho$Gorge" "most" "I", Cond.fieldLink RX3 40 "ColourEcho$Gorge" "day" "I", Cond.fieldLink RX3 43 "ColourEcho$Gorge" "worn" "I", Cond.fieldLink RX3 46 "ColourEcho$Gorge" "fog" "Z", Cond.fieldLink RX3 50 "ColourEcho$Gorge" "snow" "Z", Cond.methodLink RX1 41 yX5_digitAt, Cond.instanceMethod yX5_digitAt, Cond.selects RX5 yX5_digitAt yX5_digitAt]
def wsX6_judge_r4 : List Cond := [Cond.code yX5_digitAt cX5_digitAt 2 (some .int), Cond.methodLink RX1 45 yX3_hindrance, Cond.instanceMethod yX3_hindrance, Cond.selects RX3 yX3_hindrance yX3_hindrance, Cond.code yX3_hindrance cX3_hindrance 5 (some .int), Cond.methodLink RX3 82 yX5_colourOf, Cond.methodLink RX3 87 yX5_dressOf, Cond.methodLink RX3 90 yX3_hindranceOfDress, Cond.instanceMethod yX3_hindranceOfDress, Cond.selects RX3 yX3_hindranceOfDress yX3_hindranceOfDress, Cond.code yX3_hindranceOfDress cX3_hindranceOfDress 3 (some .int), Cond.methodLink RX3 63 yX3_worth, Cond.instanceMethod yX3_worth, Cond.selects RX3 yX3_worth yX3_worth, Cond.code yX3_worth cX3_worth 3 (some .int), Cond.static yX6_has, Cond.code yX6_has cX6_has 2 (some .boolean), Cond.methodLink RX1 52 yX1_noteOver, Cond.instanceMethod yX1_noteOver, Cond.selects RX1 yX1_noteOver yX1_noteOver, Cond.code yX1_noteOver cX1_noteOver 2 none, Cond.methodLink RX1 63 yX3_isOver, Cond.instanceMethod yX3_isOver, Cond.selects RX3 yX3_isOver yX3_isOver]
def wsX6_judge_r5 : List Cond := [Cond.code yX3_isOver cX3_isOver 1 (some .boolean), Cond.methodLink RX3 74 yX3_seenToday, Cond.instanceMethod yX3_seenToday, Cond.selects RX3 yX3_seenToday yX3_seenToday, Cond.code yX3_seenToday cX3_seenToday 5 (some .int), Cond.methodLink RX3 67 yX3_seenAgo, Cond.instanceMethod yX3_seenAgo, Cond.selects RX3 yX3_seenAgo yX3_seenAgo, Cond.code yX3_seenAgo cX3_seenAgo 3 (some .int), Cond.static yX6_capped, Cond.code yX6_capped cX6_capped 1 (some .int), Cond.methodLink RX1 56 yX3_act, Cond.instanceMethod yX3_act, Cond.selects RX3 yX3_act yX3_act, Cond.code yX3_act cX3_act 5 none, Cond.methodLink RX3 93 yX3_wear, Cond.instanceMethod yX3_wear, Cond.selects RX3 yX3_wear yX3_wear, Cond.code yX3_wear cX3_wear 3 none, Cond.methodLink RX3 97 yX3_endDay, Cond.instanceMethod yX3_endDay, Cond.selects RX3 yX3_endDay yX3_endDay, Cond.code yX3_endDay cX3_endDay 5 none, Cond.methodLink RX1 60 yX5_lengthAt]
def wsX6_judge : List Cond := .code yX6_judge cX6_judge 2 (some .int) :: ((wsX6_judge_r1 ++ (wsX6_judge_r2 ++ (wsX6_judge_r3 ++ (wsX6_judge_r4 ++ wsX6_judge_r5)))) ++ wsX60 ++ wsX10 ++ wsX50 ++ wsX30)
def wsX6_daysCanBe_r1 : List Cond := [Cond.fieldLink RX6 22 "ColourEcho" "pad" "LColourEcho$Pad;", Cond.fieldLink RX6 29 "ColourEcho" "days" "LColourEcho$Days;", Cond.fieldLink RX6 12 "ColourEcho" "gorge" "LColourEcho$Gorge;", Cond.fieldLink RX6 110 "ColourEcho$Days" "reason" "I", Cond.methodLink RX6 102 yX5_faultPlace, Cond.instanceMethod yX5_faultPlace, Cond.selects RX5 yX5_faultPlace yX5_faultPlace, Cond.initialized RX5, Cond.code yX5_faultPlace cX5_faultPlace 3 (some .int), Cond.fieldLink RX5 15 "ColourEcho$Pad" "count" "I", Cond.fieldLink RX5 9 "ColourEcho$Pad" "signs" "[I", Cond.methodLink RX5 30 yX5_takesDigit, Cond.static yX5_takesDigit, Cond.code yX5_takesDigit cX5_takesDigit 1 (some .boolean), Cond.methodLink RX5 19 yX5_colourOf, Cond.static yX5_colourOf, Cond.code yX5_colourOf cX5_colourOf 1 (some .int), Cond.methodLink RX5 34 yX5_isDigitOf, Cond.static yX5_isDigitOf, Cond.code yX5_isDigitOf cX5_isDigitOf 2 (some .boolean), Cond.static yX6_isWithin, Cond.initialized RX6, Cond.code yX6_isWithin cX6_isWithin 3 (some .boolean), Cond.methodLink RX5 38 yX5_standsAlone]
def wsX6_daysCanBe_r2 : List Cond := [Cond.static yX5_standsAlone, Cond.code yX5_standsAlone cX5_standsAlone 1 (some .boolean), Cond.methodLink RX5 23 yX5_dressOf, Cond.static yX5_dressOf, Cond.code yX5_dressOf cX5_dressOf 1 (some .int), Cond.methodLink RX5 41 yX5_lengthAt, Cond.instanceMethod yX5_lengthAt, Cond.selects RX5 yX5_lengthAt yX5_lengthAt, Cond.code yX5_lengthAt cX5_lengthAt 2 (some .int), Cond.methodLink RX6 106 yX1_play, Cond.instanceMethod yX1_play, Cond.selects RX1 yX1_play yX1_play, Cond.initialized RX1, Cond.code yX1_play cX1_play 6 none, Cond.fieldLink RX1 12 "ColourEcho$Days" "end" "LColourEcho$Gorge;", Cond.fieldLink RX1 18 "ColourEcho$Days" "acts" "I", Cond.fieldLink RX1 22 "ColourEcho$Days" "reason" "I", Cond.fieldLink RX1 25 "ColourEcho$Days" "firstOver" "I", Cond.fieldLink RX1 32 "ColourEcho$Pad" "count" "I", Cond.fieldLink RX1 37 "ColourEcho$Pad" "signs" "[I", Cond.fieldLink RX1 49 "ColourEcho$Gorge" "day" "I", Cond.methodLink RX1 28 yX3_become, Cond.instanceMethod yX3_become, Cond.selects RX3 yX3_become yX3_become]
def wsX6_daysCanBe_r3 : List Cond := [Cond.initialized RX3, Cond.code yX3_become cX3_become 2 none, Cond.fieldLink RX3 9 "ColourEcho$Gorge" "off" "[I", Cond.methodLink RX3 53 arraycopyName, Cond.native arraycopyName, Cond.static arraycopyName, Cond.initialized "java/lang/System", Cond.fieldLink RX3 15 "ColourEcho$Gorge" "keeps" "[I", Cond.fieldLink RX3 18 "ColourEcho$Gorge" "dresses" "[I", Cond.fieldLink RX3 21 "ColourEcho$Gorge" "past" "[I", Cond.fieldLink RX3 24 "ColourEcho$Gorge" "today" "[I", Cond.fieldLink RX3 27 "ColourEcho$Gorge" "sightDays" "[I", Cond.fieldLink RX3 30 "ColourEcho$Gorge" "sightAmounts" "[I", Cond.fieldLink RX3 33 "ColourEcho$Gorge" "sights" "I", Cond.fieldLink RX3 37 "ColourEcho$Gorge" "most" "I", Cond.fieldLink RX3 40 "ColourEcho$Gorge" "day" "I", Cond.fieldLink RX3 43 "ColourEcho$Gorge" "worn" "I", Cond.fieldLink RX3 46 "ColourEcho$Gorge" "fog" "Z", Cond.fieldLink RX3 50 "ColourEcho$Gorge" "snow" "Z", Cond.methodLink RX1 41 yX5_digitAt, Cond.instanceMethod yX5_digitAt, Cond.selects RX5 yX5_digitAt yX5_digitAt, Cond.code yX5_digitAt cX5_digitAt 2 (some .int), Cond.methodLink RX1 45 yX3_hindrance]
def wsX6_daysCanBe_r4 : List Cond := [Cond.instanceMethod yX3_hindrance, Cond.selects RX3 yX3_hindrance yX3_hindrance, Cond.code yX3_hindrance cX3_hindrance 5 (some .int), Cond.methodLink RX3 82 yX5_colourOf, Cond.methodLink RX3 87 yX5_dressOf, Cond.methodLink RX3 90 yX3_hindranceOfDress, Cond.instanceMethod yX3_hindranceOfDress, Cond.selects RX3 yX3_hindranceOfDress yX3_hindranceOfDress, Cond.code yX3_hindranceOfDress cX3_hindranceOfDress 3 (some .int), Cond.methodLink RX3 63 yX3_worth, Cond.instanceMethod yX3_worth, Cond.selects RX3 yX3_worth yX3_worth, Cond.code yX3_worth cX3_worth 3 (some .int), Cond.static yX6_has, Cond.code yX6_has cX6_has 2 (some .boolean), Cond.methodLink RX1 52 yX1_noteOver, Cond.instanceMethod yX1_noteOver, Cond.selects RX1 yX1_noteOver yX1_noteOver, Cond.code yX1_noteOver cX1_noteOver 2 none, Cond.methodLink RX1 63 yX3_isOver, Cond.instanceMethod yX3_isOver, Cond.selects RX3 yX3_isOver yX3_isOver, Cond.code yX3_isOver cX3_isOver 1 (some .boolean), Cond.methodLink RX3 74 yX3_seenToday]
def wsX6_daysCanBe_r5 : List Cond := [Cond.instanceMethod yX3_seenToday, Cond.selects RX3 yX3_seenToday yX3_seenToday, Cond.code yX3_seenToday cX3_seenToday 5 (some .int), Cond.methodLink RX3 67 yX3_seenAgo, Cond.instanceMethod yX3_seenAgo, Cond.selects RX3 yX3_seenAgo yX3_seenAgo, Cond.code yX3_seenAgo cX3_seenAgo 3 (some .int), Cond.static yX6_capped, Cond.code yX6_capped cX6_capped 1 (some .int), Cond.methodLink RX1 56 yX3_act, Cond.instanceMethod yX3_act, Cond.selects RX3 yX3_act yX3_act, Cond.code yX3_act cX3_act 5 none, Cond.methodLink RX3 93 yX3_wear, Cond.instanceMethod yX3_wear, Cond.selects RX3 yX3_wear yX3_wear, Cond.code yX3_wear cX3_wear 3 none, Cond.methodLink RX3 97 yX3_endDay, Cond.instanceMethod yX3_endDay, Cond.selects RX3 yX3_endDay yX3_endDay, Cond.code yX3_endDay cX3_endDay 5 none, Cond.methodLink RX1 60 yX5_lengthAt]
def wsX6_daysCanBe : List Cond := .code yX6_daysCanBe cX6_daysCanBe 1 (some .boolean) :: ((wsX6_daysCanBe_r1 ++ (wsX6_daysCanBe_r2 ++ (wsX6_daysCanBe_r3 ++ (wsX6_daysCanBe_r4 ++ wsX6_daysCanBe_r5)))) ++ wsX60 ++ wsX10 ++ wsX50 ++ wsX30)
def wsX6_done_r1 : List Cond := [Cond.fieldLink RX6 12 "ColourEcho" "gorge" "LColourEcho$Gorge;", Cond.fieldLink RX6 29 "ColourEcho" "days" "LColourEcho$Days;", Cond.fieldLink RX6 120 "ColourEcho$Days" "end" "LColourEcho$Gorge;", Cond.fieldLink RX6 22 "ColourEcho" "pad" "LColourEcho$Pad;", Cond.fieldLink RX6 96 "ColourEcho$Pad" "count" "I", Cond.fieldLink RX6 113 "ColourEcho$Days" "acts" "I", Cond.methodLink RX6 116 yX6_daysCanBe, Cond.instanceMethod yX6_daysCanBe, Cond.selects RX6 yX6_daysCanBe yX6_daysCanBe, Cond.initialized RX6, Cond.code yX6_daysCanBe cX6_daysCanBe 1 (some .boolean), Cond.fieldLink RX6 110 "ColourEcho$Days" "reason" "I", Cond.methodLink RX6 102 yX5_faultPlace, Cond.instanceMethod yX5_faultPlace, Cond.selects RX5 yX5_faultPlace yX5_faultPlace, Cond.initialized RX5, Cond.code yX5_faultPlace cX5_faultPlace 3 (some .int), Cond.fieldLink RX5 15 "ColourEcho$Pad" "count" "I", Cond.fieldLink RX5 9 "ColourEcho$Pad" "signs" "[I", Cond.methodLink RX5 30 yX5_takesDigit, Cond.static yX5_takesDigit, Cond.code yX5_takesDigit cX5_takesDigit 1 (some .boolean), Cond.methodLink RX5 19 yX5_colourOf, Cond.static yX5_colourOf]
def wsX6_done_r2 : List Cond := [Cond.code yX5_colourOf cX5_colourOf 1 (some .int), Cond.methodLink RX5 34 yX5_isDigitOf, Cond.static yX5_isDigitOf, Cond.code yX5_isDigitOf cX5_isDigitOf 2 (some .boolean), Cond.static yX6_isWithin, Cond.code yX6_isWithin cX6_isWithin 3 (some .boolean), Cond.methodLink RX5 38 yX5_standsAlone, Cond.static yX5_standsAlone, Cond.code yX5_standsAlone cX5_standsAlone 1 (some .boolean), Cond.methodLink RX5 23 yX5_dressOf, Cond.static yX5_dressOf, Cond.code yX5_dressOf cX5_dressOf 1 (some .int), Cond.methodLink RX5 41 yX5_lengthAt, Cond.instanceMethod yX5_lengthAt, Cond.selects RX5 yX5_lengthAt yX5_lengthAt, Cond.code yX5_lengthAt cX5_lengthAt 2 (some .int), Cond.methodLink RX6 106 yX1_play, Cond.instanceMethod yX1_play, Cond.selects RX1 yX1_play yX1_play, Cond.initialized RX1, Cond.code yX1_play cX1_play 6 none, Cond.fieldLink RX1 12 "ColourEcho$Days" "end" "LColourEcho$Gorge;", Cond.fieldLink RX1 18 "ColourEcho$Days" "acts" "I", Cond.fieldLink RX1 22 "ColourEcho$Days" "reason" "I"]
def wsX6_done_r3 : List Cond := [Cond.fieldLink RX1 25 "ColourEcho$Days" "firstOver" "I", Cond.fieldLink RX1 32 "ColourEcho$Pad" "count" "I", Cond.fieldLink RX1 37 "ColourEcho$Pad" "signs" "[I", Cond.fieldLink RX1 49 "ColourEcho$Gorge" "day" "I", Cond.methodLink RX1 28 yX3_become, Cond.instanceMethod yX3_become, Cond.selects RX3 yX3_become yX3_become, Cond.initialized RX3, Cond.code yX3_become cX3_become 2 none, Cond.fieldLink RX3 9 "ColourEcho$Gorge" "off" "[I", Cond.methodLink RX3 53 arraycopyName, Cond.native arraycopyName, Cond.static arraycopyName, Cond.initialized "java/lang/System", Cond.fieldLink RX3 15 "ColourEcho$Gorge" "keeps" "[I", Cond.fieldLink RX3 18 "ColourEcho$Gorge" "dresses" "[I", Cond.fieldLink RX3 21 "ColourEcho$Gorge" "past" "[I", Cond.fieldLink RX3 24 "ColourEcho$Gorge" "today" "[I", Cond.fieldLink RX3 27 "ColourEcho$Gorge" "sightDays" "[I", Cond.fieldLink RX3 30 "ColourEcho$Gorge" "sightAmounts" "[I", Cond.fieldLink RX3 33 "ColourEcho$Gorge" "sights" "I", Cond.fieldLink RX3 37 "ColourEcho$Gorge" "most" "I", Cond.fieldLink RX3 40 "ColourEcho$Gorge" "day" "I", Cond.fieldLink RX3 43 "ColourEcho$Gorge" "worn" "I"]
def wsX6_done_r4 : List Cond := [Cond.fieldLink RX3 46 "ColourEcho$Gorge" "fog" "Z", Cond.fieldLink RX3 50 "ColourEcho$Gorge" "snow" "Z", Cond.methodLink RX1 41 yX5_digitAt, Cond.instanceMethod yX5_digitAt, Cond.selects RX5 yX5_digitAt yX5_digitAt, Cond.code yX5_digitAt cX5_digitAt 2 (some .int), Cond.methodLink RX1 45 yX3_hindrance, Cond.instanceMethod yX3_hindrance, Cond.selects RX3 yX3_hindrance yX3_hindrance, Cond.code yX3_hindrance cX3_hindrance 5 (some .int), Cond.methodLink RX3 82 yX5_colourOf, Cond.methodLink RX3 87 yX5_dressOf, Cond.methodLink RX3 90 yX3_hindranceOfDress, Cond.instanceMethod yX3_hindranceOfDress, Cond.selects RX3 yX3_hindranceOfDress yX3_hindranceOfDress, Cond.code yX3_hindranceOfDress cX3_hindranceOfDress 3 (some .int), Cond.methodLink RX3 63 yX3_worth, Cond.instanceMethod yX3_worth, Cond.selects RX3 yX3_worth yX3_worth, Cond.code yX3_worth cX3_worth 3 (some .int), Cond.static yX6_has, Cond.code yX6_has cX6_has 2 (some .boolean), Cond.methodLink RX1 52 yX1_noteOver, Cond.instanceMethod yX1_noteOver]
def wsX6_done_r5 : List Cond := [Cond.selects RX1 yX1_noteOver yX1_noteOver, Cond.code yX1_noteOver cX1_noteOver 2 none, Cond.methodLink RX1 63 yX3_isOver, Cond.instanceMethod yX3_isOver, Cond.selects RX3 yX3_isOver yX3_isOver, Cond.code yX3_isOver cX3_isOver 1 (some .boolean), Cond.methodLink RX3 74 yX3_seenToday, Cond.instanceMethod yX3_seenToday, Cond.selects RX3 yX3_seenToday yX3_seenToday, Cond.code yX3_seenToday cX3_seenToday 5 (some .int), Cond.methodLink RX3 67 yX3_seenAgo, Cond.instanceMethod yX3_seenAgo, Cond.selects RX3 yX3_seenAgo yX3_seenAgo, Cond.code yX3_seenAgo cX3_seenAgo 3 (some .int), Cond.static yX6_capped, Cond.code yX6_capped cX6_capped 1 (some .int), Cond.methodLink RX1 56 yX3_act, Cond.instanceMethod yX3_act, Cond.selects RX3 yX3_act yX3_act, Cond.code yX3_act cX3_act 5 none, Cond.methodLink RX3 93 yX3_wear, Cond.instanceMethod yX3_wear, Cond.selects RX3 yX3_wear yX3_wear, Cond.code yX3_wear cX3_wear 3 none]
def wsX6_done_r6 : List Cond := [Cond.methodLink RX3 97 yX3_endDay, Cond.instanceMethod yX3_endDay, Cond.selects RX3 yX3_endDay yX3_endDay, Cond.code yX3_endDay cX3_endDay 5 none, Cond.methodLink RX1 60 yX5_lengthAt, Cond.methodLink RX6 123 yX3_become]
def wsX6_done : List Cond := .code yX6_done cX6_done 1 (some .int) :: ((wsX6_done_r1 ++ (wsX6_done_r2 ++ (wsX6_done_r3 ++ (wsX6_done_r4 ++ (wsX6_done_r5 ++ wsX6_done_r6))))) ++ wsX60 ++ wsX10 ++ wsX50 ++ wsX30)
def wsX6_behind_r1 : List Cond := [Cond.fieldLink RX6 29 "ColourEcho" "days" "LColourEcho$Days;", Cond.fieldLink RX6 120 "ColourEcho$Days" "end" "LColourEcho$Gorge;", Cond.fieldLink RX6 127 "ColourEcho$Gorge" "day" "I", Cond.methodLink RX6 68 yX6_isWithin, Cond.static yX6_isWithin, Cond.initialized RX6, Cond.code yX6_isWithin cX6_isWithin 3 (some .boolean), Cond.methodLink RX6 116 yX6_daysCanBe, Cond.instanceMethod yX6_daysCanBe, Cond.selects RX6 yX6_daysCanBe yX6_daysCanBe, Cond.code yX6_daysCanBe cX6_daysCanBe 1 (some .boolean), Cond.fieldLink RX6 22 "ColourEcho" "pad" "LColourEcho$Pad;", Cond.fieldLink RX6 12 "ColourEcho" "gorge" "LColourEcho$Gorge;", Cond.fieldLink RX6 110 "ColourEcho$Days" "reason" "I", Cond.methodLink RX6 102 yX5_faultPlace, Cond.instanceMethod yX5_faultPlace, Cond.selects RX5 yX5_faultPlace yX5_faultPlace, Cond.initialized RX5, Cond.code yX5_faultPlace cX5_faultPlace 3 (some .int), Cond.fieldLink RX5 15 "ColourEcho$Pad" "count" "I", Cond.fieldLink RX5 9 "ColourEcho$Pad" "signs" "[I", Cond.methodLink RX5 30 yX5_takesDigit, Cond.static yX5_takesDigit, Cond.code yX5_takesDigit cX5_takesDigit 1 (some .boolean)]
def wsX6_behind_r2 : List Cond := [Cond.methodLink RX5 19 yX5_colourOf, Cond.static yX5_colourOf, Cond.code yX5_colourOf cX5_colourOf 1 (some .int), Cond.methodLink RX5 34 yX5_isDigitOf, Cond.static yX5_isDigitOf, Cond.code yX5_isDigitOf cX5_isDigitOf 2 (some .boolean), Cond.methodLink RX5 38 yX5_standsAlone, Cond.static yX5_standsAlone, Cond.code yX5_standsAlone cX5_standsAlone 1 (some .boolean), Cond.methodLink RX5 23 yX5_dressOf, Cond.static yX5_dressOf, Cond.code yX5_dressOf cX5_dressOf 1 (some .int), Cond.methodLink RX5 41 yX5_lengthAt, Cond.instanceMethod yX5_lengthAt, Cond.selects RX5 yX5_lengthAt yX5_lengthAt, Cond.code yX5_lengthAt cX5_lengthAt 2 (some .int), Cond.methodLink RX6 106 yX1_play, Cond.instanceMethod yX1_play, Cond.selects RX1 yX1_play yX1_play, Cond.initialized RX1, Cond.code yX1_play cX1_play 6 none, Cond.fieldLink RX1 12 "ColourEcho$Days" "end" "LColourEcho$Gorge;", Cond.fieldLink RX1 18 "ColourEcho$Days" "acts" "I", Cond.fieldLink RX1 22 "ColourEcho$Days" "reason" "I"]
def wsX6_behind_r3 : List Cond := [Cond.fieldLink RX1 25 "ColourEcho$Days" "firstOver" "I", Cond.fieldLink RX1 32 "ColourEcho$Pad" "count" "I", Cond.fieldLink RX1 37 "ColourEcho$Pad" "signs" "[I", Cond.fieldLink RX1 49 "ColourEcho$Gorge" "day" "I", Cond.methodLink RX1 28 yX3_become, Cond.instanceMethod yX3_become, Cond.selects RX3 yX3_become yX3_become, Cond.initialized RX3, Cond.code yX3_become cX3_become 2 none, Cond.fieldLink RX3 9 "ColourEcho$Gorge" "off" "[I", Cond.methodLink RX3 53 arraycopyName, Cond.native arraycopyName, Cond.static arraycopyName, Cond.initialized "java/lang/System", Cond.fieldLink RX3 15 "ColourEcho$Gorge" "keeps" "[I", Cond.fieldLink RX3 18 "ColourEcho$Gorge" "dresses" "[I", Cond.fieldLink RX3 21 "ColourEcho$Gorge" "past" "[I", Cond.fieldLink RX3 24 "ColourEcho$Gorge" "today" "[I", Cond.fieldLink RX3 27 "ColourEcho$Gorge" "sightDays" "[I", Cond.fieldLink RX3 30 "ColourEcho$Gorge" "sightAmounts" "[I", Cond.fieldLink RX3 33 "ColourEcho$Gorge" "sights" "I", Cond.fieldLink RX3 37 "ColourEcho$Gorge" "most" "I", Cond.fieldLink RX3 40 "ColourEcho$Gorge" "day" "I", Cond.fieldLink RX3 43 "ColourEcho$Gorge" "worn" "I"]
def wsX6_behind_r4 : List Cond := [Cond.fieldLink RX3 46 "ColourEcho$Gorge" "fog" "Z", Cond.fieldLink RX3 50 "ColourEcho$Gorge" "snow" "Z", Cond.methodLink RX1 41 yX5_digitAt, Cond.instanceMethod yX5_digitAt, Cond.selects RX5 yX5_digitAt yX5_digitAt, Cond.code yX5_digitAt cX5_digitAt 2 (some .int), Cond.methodLink RX1 45 yX3_hindrance, Cond.instanceMethod yX3_hindrance, Cond.selects RX3 yX3_hindrance yX3_hindrance, Cond.code yX3_hindrance cX3_hindrance 5 (some .int), Cond.methodLink RX3 82 yX5_colourOf, Cond.methodLink RX3 87 yX5_dressOf, Cond.methodLink RX3 90 yX3_hindranceOfDress, Cond.instanceMethod yX3_hindranceOfDress, Cond.selects RX3 yX3_hindranceOfDress yX3_hindranceOfDress, Cond.code yX3_hindranceOfDress cX3_hindranceOfDress 3 (some .int), Cond.methodLink RX3 63 yX3_worth, Cond.instanceMethod yX3_worth, Cond.selects RX3 yX3_worth yX3_worth, Cond.code yX3_worth cX3_worth 3 (some .int), Cond.static yX6_has, Cond.code yX6_has cX6_has 2 (some .boolean), Cond.methodLink RX1 52 yX1_noteOver, Cond.instanceMethod yX1_noteOver]
def wsX6_behind_r5 : List Cond := [Cond.selects RX1 yX1_noteOver yX1_noteOver, Cond.code yX1_noteOver cX1_noteOver 2 none, Cond.methodLink RX1 63 yX3_isOver, Cond.instanceMethod yX3_isOver, Cond.selects RX3 yX3_isOver yX3_isOver, Cond.code yX3_isOver cX3_isOver 1 (some .boolean), Cond.methodLink RX3 74 yX3_seenToday, Cond.instanceMethod yX3_seenToday, Cond.selects RX3 yX3_seenToday yX3_seenToday, Cond.code yX3_seenToday cX3_seenToday 5 (some .int), Cond.methodLink RX3 67 yX3_seenAgo, Cond.instanceMethod yX3_seenAgo, Cond.selects RX3 yX3_seenAgo yX3_seenAgo, Cond.code yX3_seenAgo cX3_seenAgo 3 (some .int), Cond.static yX6_capped, Cond.code yX6_capped cX6_capped 1 (some .int), Cond.methodLink RX1 56 yX3_act, Cond.instanceMethod yX3_act, Cond.selects RX3 yX3_act yX3_act, Cond.code yX3_act cX3_act 5 none, Cond.methodLink RX3 93 yX3_wear, Cond.instanceMethod yX3_wear, Cond.selects RX3 yX3_wear yX3_wear, Cond.code yX3_wear cX3_wear 3 none]
def wsX6_behind_r6 : List Cond := [Cond.methodLink RX3 97 yX3_endDay, Cond.instanceMethod yX3_endDay, Cond.selects RX3 yX3_endDay yX3_endDay, Cond.code yX3_endDay cX3_endDay 5 none, Cond.methodLink RX1 60 yX5_lengthAt, Cond.methodLink RX6 130 yX3_seenToday]
def wsX6_behind : List Cond := .code yX6_behind cX6_behind 2 (some .int) :: ((wsX6_behind_r1 ++ (wsX6_behind_r2 ++ (wsX6_behind_r3 ++ (wsX6_behind_r4 ++ (wsX6_behind_r5 ++ wsX6_behind_r6))))) ++ wsX60 ++ wsX10 ++ wsX30 ++ wsX50)
def wsX6_broken_r1 : List Cond := [Cond.fieldLink RX6 29 "ColourEcho" "days" "LColourEcho$Days;", Cond.fieldLink RX6 133 "ColourEcho$Days" "firstOver" "I", Cond.methodLink RX6 116 yX6_daysCanBe, Cond.instanceMethod yX6_daysCanBe, Cond.selects RX6 yX6_daysCanBe yX6_daysCanBe, Cond.initialized RX6, Cond.code yX6_daysCanBe cX6_daysCanBe 1 (some .boolean), Cond.fieldLink RX6 22 "ColourEcho" "pad" "LColourEcho$Pad;", Cond.fieldLink RX6 12 "ColourEcho" "gorge" "LColourEcho$Gorge;", Cond.fieldLink RX6 110 "ColourEcho$Days" "reason" "I", Cond.methodLink RX6 102 yX5_faultPlace, Cond.instanceMethod yX5_faultPlace, Cond.selects RX5 yX5_faultPlace yX5_faultPlace, Cond.initialized RX5, Cond.code yX5_faultPlace cX5_faultPlace 3 (some .int), Cond.fieldLink RX5 15 "ColourEcho$Pad" "count" "I", Cond.fieldLink RX5 9 "ColourEcho$Pad" "signs" "[I", Cond.methodLink RX5 30 yX5_takesDigit, Cond.static yX5_takesDigit, Cond.code yX5_takesDigit cX5_takesDigit 1 (some .boolean), Cond.methodLink RX5 19 yX5_colourOf, Cond.static yX5_colourOf, Cond.code yX5_colourOf cX5_colourOf 1 (some .int), Cond.methodLink RX5 34 yX5_isDigitOf]
def wsX6_broken_r2 : List Cond := [Cond.static yX5_isDigitOf, Cond.code yX5_isDigitOf cX5_isDigitOf 2 (some .boolean), Cond.static yX6_isWithin, Cond.code yX6_isWithin cX6_isWithin 3 (some .boolean), Cond.methodLink RX5 38 yX5_standsAlone, Cond.static yX5_standsAlone, Cond.code yX5_standsAlone cX5_standsAlone 1 (some .boolean), Cond.methodLink RX5 23 yX5_dressOf, Cond.static yX5_dressOf, Cond.code yX5_dressOf cX5_dressOf 1 (some .int), Cond.methodLink RX5 41 yX5_lengthAt, Cond.instanceMethod yX5_lengthAt, Cond.selects RX5 yX5_lengthAt yX5_lengthAt, Cond.code yX5_lengthAt cX5_lengthAt 2 (some .int), Cond.methodLink RX6 106 yX1_play, Cond.instanceMethod yX1_play, Cond.selects RX1 yX1_play yX1_play, Cond.initialized RX1, Cond.code yX1_play cX1_play 6 none, Cond.fieldLink RX1 12 "ColourEcho$Days" "end" "LColourEcho$Gorge;", Cond.fieldLink RX1 18 "ColourEcho$Days" "acts" "I", Cond.fieldLink RX1 22 "ColourEcho$Days" "reason" "I", Cond.fieldLink RX1 25 "ColourEcho$Days" "firstOver" "I", Cond.fieldLink RX1 32 "ColourEcho$Pad" "count" "I"]
def wsX6_broken_r3 : List Cond := [Cond.fieldLink RX1 37 "ColourEcho$Pad" "signs" "[I", Cond.fieldLink RX1 49 "ColourEcho$Gorge" "day" "I", Cond.methodLink RX1 28 yX3_become, Cond.instanceMethod yX3_become, Cond.selects RX3 yX3_become yX3_become, Cond.initialized RX3, Cond.code yX3_become cX3_become 2 none, Cond.fieldLink RX3 9 "ColourEcho$Gorge" "off" "[I", Cond.methodLink RX3 53 arraycopyName, Cond.native arraycopyName, Cond.static arraycopyName, Cond.initialized "java/lang/System", Cond.fieldLink RX3 15 "ColourEcho$Gorge" "keeps" "[I", Cond.fieldLink RX3 18 "ColourEcho$Gorge" "dresses" "[I", Cond.fieldLink RX3 21 "ColourEcho$Gorge" "past" "[I", Cond.fieldLink RX3 24 "ColourEcho$Gorge" "today" "[I", Cond.fieldLink RX3 27 "ColourEcho$Gorge" "sightDays" "[I", Cond.fieldLink RX3 30 "ColourEcho$Gorge" "sightAmounts" "[I", Cond.fieldLink RX3 33 "ColourEcho$Gorge" "sights" "I", Cond.fieldLink RX3 37 "ColourEcho$Gorge" "most" "I", Cond.fieldLink RX3 40 "ColourEcho$Gorge" "day" "I", Cond.fieldLink RX3 43 "ColourEcho$Gorge" "worn" "I", Cond.fieldLink RX3 46 "ColourEcho$Gorge" "fog" "Z", Cond.fieldLink RX3 50 "ColourEcho$Gorge" "snow" "Z"]
def wsX6_broken_r4 : List Cond := [Cond.methodLink RX1 41 yX5_digitAt, Cond.instanceMethod yX5_digitAt, Cond.selects RX5 yX5_digitAt yX5_digitAt, Cond.code yX5_digitAt cX5_digitAt 2 (some .int), Cond.methodLink RX1 45 yX3_hindrance, Cond.instanceMethod yX3_hindrance, Cond.selects RX3 yX3_hindrance yX3_hindrance, Cond.code yX3_hindrance cX3_hindrance 5 (some .int), Cond.methodLink RX3 82 yX5_colourOf, Cond.methodLink RX3 87 yX5_dressOf, Cond.methodLink RX3 90 yX3_hindranceOfDress, Cond.instanceMethod yX3_hindranceOfDress, Cond.selects RX3 yX3_hindranceOfDress yX3_hindranceOfDress, Cond.code yX3_hindranceOfDress cX3_hindranceOfDress 3 (some .int), Cond.methodLink RX3 63 yX3_worth, Cond.instanceMethod yX3_worth, Cond.selects RX3 yX3_worth yX3_worth, Cond.code yX3_worth cX3_worth 3 (some .int), Cond.static yX6_has, Cond.code yX6_has cX6_has 2 (some .boolean), Cond.methodLink RX1 52 yX1_noteOver, Cond.instanceMethod yX1_noteOver, Cond.selects RX1 yX1_noteOver yX1_noteOver, Cond.code yX1_noteOver cX1_noteOver 2 none]
def wsX6_broken_r5 : List Cond := [Cond.methodLink RX1 63 yX3_isOver, Cond.instanceMethod yX3_isOver, Cond.selects RX3 yX3_isOver yX3_isOver, Cond.code yX3_isOver cX3_isOver 1 (some .boolean), Cond.methodLink RX3 74 yX3_seenToday, Cond.instanceMethod yX3_seenToday, Cond.selects RX3 yX3_seenToday yX3_seenToday, Cond.code yX3_seenToday cX3_seenToday 5 (some .int), Cond.methodLink RX3 67 yX3_seenAgo, Cond.instanceMethod yX3_seenAgo, Cond.selects RX3 yX3_seenAgo yX3_seenAgo, Cond.code yX3_seenAgo cX3_seenAgo 3 (some .int), Cond.static yX6_capped, Cond.code yX6_capped cX6_capped 1 (some .int), Cond.methodLink RX1 56 yX3_act, Cond.instanceMethod yX3_act, Cond.selects RX3 yX3_act yX3_act, Cond.code yX3_act cX3_act 5 none, Cond.methodLink RX3 93 yX3_wear, Cond.instanceMethod yX3_wear, Cond.selects RX3 yX3_wear yX3_wear, Cond.code yX3_wear cX3_wear 3 none, Cond.methodLink RX3 97 yX3_endDay, Cond.instanceMethod yX3_endDay]
def wsX6_broken_r6 : List Cond := [Cond.selects RX3 yX3_endDay yX3_endDay, Cond.code yX3_endDay cX3_endDay 5 none, Cond.methodLink RX1 60 yX5_lengthAt]
def wsX6_broken : List Cond := .code yX6_broken cX6_broken 1 (some .int) :: ((wsX6_broken_r1 ++ (wsX6_broken_r2 ++ (wsX6_broken_r3 ++ (wsX6_broken_r4 ++ (wsX6_broken_r5 ++ wsX6_broken_r6))))) ++ wsX60 ++ wsX10 ++ wsX50 ++ wsX30)
def wsX6_isColour : List Cond := .code yX6_isColour cX6_isColour 1 (some .boolean) :: ([.methodLink RX6 68 yX6_isWithin, .static yX6_isWithin, .initialized RX6, .code yX6_isWithin cX6_isWithin 3 (some .boolean)])
def wsX6_sees_r1 : List Cond := [Cond.fieldLink RX6 12 "ColourEcho" "gorge" "LColourEcho$Gorge;", Cond.methodLink RX6 136 yX6_isColour, Cond.static yX6_isColour, Cond.initialized RX6, Cond.code yX6_isColour cX6_isColour 1 (some .boolean), Cond.methodLink RX6 68 yX6_isWithin, Cond.static yX6_isWithin, Cond.code yX6_isWithin cX6_isWithin 3 (some .boolean), Cond.methodLink RX6 130 yX3_seenToday, Cond.instanceMethod yX3_seenToday, Cond.selects RX3 yX3_seenToday yX3_seenToday, Cond.initialized RX3, Cond.code yX3_seenToday cX3_seenToday 5 (some .int), Cond.fieldLink RX3 24 "ColourEcho$Gorge" "today" "[I", Cond.fieldLink RX3 46 "ColourEcho$Gorge" "fog" "Z", Cond.fieldLink RX3 50 "ColourEcho$Gorge" "snow" "Z", Cond.fieldLink RX3 9 "ColourEcho$Gorge" "off" "[I", Cond.fieldLink RX3 15 "ColourEcho$Gorge" "keeps" "[I", Cond.methodLink RX3 67 yX3_seenAgo, Cond.instanceMethod yX3_seenAgo, Cond.selects RX3 yX3_seenAgo yX3_seenAgo, Cond.code yX3_seenAgo cX3_seenAgo 3 (some .int), Cond.fieldLink RX3 21 "ColourEcho$Gorge" "past" "[I", Cond.static yX6_capped]
def wsX6_sees_r2 : List Cond := [Cond.code yX6_capped cX6_capped 1 (some .int)]
def wsX6_sees : List Cond := .code yX6_sees cX6_sees 2 (some .int) :: ((wsX6_sees_r1 ++ wsX6_sees_r2) ++ wsX60 ++ wsX30)
def wsX6_isAhead : List Cond := .code yX6_isAhead cX6_isAhead 1 (some .boolean) :: ([.methodLink RX6 68 yX6_isWithin, .static yX6_isWithin, .initialized RX6, .code yX6_isWithin cX6_isWithin 3 (some .boolean)])
def wsX6_seenWith_r1 : List Cond := [Cond.fieldLink RX6 36 "ColourEcho" "course" "LColourEcho$Course;", Cond.fieldLink RX6 12 "ColourEcho" "gorge" "LColourEcho$Gorge;", Cond.methodLink RX6 146 yX0_fromNow, Cond.instanceMethod yX0_fromNow, Cond.selects RX0 yX0_fromNow yX0_fromNow, Cond.initialized RX0, Cond.code yX0_fromNow cX0_fromNow 5 none, Cond.fieldLink RX0 11 "ColourEcho$Course" "row" "[I", Cond.fieldLink RX0 15 "ColourEcho$Gorge" "snow" "Z", Cond.methodLink RX0 21 yX3_seenAgo, Cond.instanceMethod yX3_seenAgo, Cond.selects RX3 yX3_seenAgo yX3_seenAgo, Cond.initialized RX3, Cond.code yX3_seenAgo cX3_seenAgo 3 (some .int), Cond.fieldLink RX3 21 "ColourEcho$Gorge" "past" "[I", Cond.methodLink RX0 25 yX3_seenToday, Cond.instanceMethod yX3_seenToday, Cond.selects RX3 yX3_seenToday yX3_seenToday, Cond.code yX3_seenToday cX3_seenToday 5 (some .int), Cond.fieldLink RX3 24 "ColourEcho$Gorge" "today" "[I", Cond.fieldLink RX3 46 "ColourEcho$Gorge" "fog" "Z", Cond.fieldLink RX3 50 "ColourEcho$Gorge" "snow" "Z", Cond.fieldLink RX3 9 "ColourEcho$Gorge" "off" "[I", Cond.fieldLink RX3 15 "ColourEcho$Gorge" "keeps" "[I"]
def wsX6_seenWith_r2 : List Cond := [Cond.methodLink RX3 67 yX3_seenAgo, Cond.static yX6_capped, Cond.initialized RX6, Cond.code yX6_capped cX6_capped 1 (some .int), Cond.methodLink RX6 150 yX0_run, Cond.instanceMethod yX0_run, Cond.selects RX0 yX0_run yX0_run, Cond.code yX0_run cX0_run 6 none, Cond.static yX6_has, Cond.code yX6_has cX6_has 2 (some .boolean), Cond.methodLink RX0 36 yX0_offWalls, Cond.instanceMethod yX0_offWalls, Cond.selects RX0 yX0_offWalls yX0_offWalls, Cond.code yX0_offWalls cX0_offWalls 5 (some .int), Cond.fieldLink RX0 40 "ColourEcho$Gorge" "off" "[I", Cond.fieldLink RX0 43 "ColourEcho$Gorge" "keeps" "[I", Cond.methodLink RX6 220 yX0_at, Cond.instanceMethod yX0_at, Cond.selects RX0 yX0_at yX0_at, Cond.code yX0_at cX0_at 2 (some .int)]
def wsX6_seenWith : List Cond := .code yX6_seenWith cX6_seenWith 4 (some .int) :: ((wsX6_seenWith_r1 ++ wsX6_seenWith_r2) ++ wsX60 ++ wsX00 ++ wsX30)
def wsX6_forecast_r1 : List Cond := [Cond.methodLink RX6 136 yX6_isColour, Cond.static yX6_isColour, Cond.initialized RX6, Cond.code yX6_isColour cX6_isColour 1 (some .boolean), Cond.methodLink RX6 68 yX6_isWithin, Cond.static yX6_isWithin, Cond.code yX6_isWithin cX6_isWithin 3 (some .boolean), Cond.methodLink RX6 139 yX6_isAhead, Cond.static yX6_isAhead, Cond.code yX6_isAhead cX6_isAhead 1 (some .boolean), Cond.methodLink RX6 142 yX6_seenWith, Cond.instanceMethod yX6_seenWith, Cond.selects RX6 yX6_seenWith yX6_seenWith, Cond.code yX6_seenWith cX6_seenWith 4 (some .int), Cond.fieldLink RX6 36 "ColourEcho" "course" "LColourEcho$Course;", Cond.fieldLink RX6 12 "ColourEcho" "gorge" "LColourEcho$Gorge;", Cond.methodLink RX6 146 yX0_fromNow, Cond.instanceMethod yX0_fromNow, Cond.selects RX0 yX0_fromNow yX0_fromNow, Cond.initialized RX0, Cond.code yX0_fromNow cX0_fromNow 5 none, Cond.fieldLink RX0 11 "ColourEcho$Course" "row" "[I", Cond.fieldLink RX0 15 "ColourEcho$Gorge" "snow" "Z", Cond.methodLink RX0 21 yX3_seenAgo]
def wsX6_forecast_r2 : List Cond := [Cond.instanceMethod yX3_seenAgo, Cond.selects RX3 yX3_seenAgo yX3_seenAgo, Cond.initialized RX3, Cond.code yX3_seenAgo cX3_seenAgo 3 (some .int), Cond.fieldLink RX3 21 "ColourEcho$Gorge" "past" "[I", Cond.methodLink RX0 25 yX3_seenToday, Cond.instanceMethod yX3_seenToday, Cond.selects RX3 yX3_seenToday yX3_seenToday, Cond.code yX3_seenToday cX3_seenToday 5 (some .int), Cond.fieldLink RX3 24 "ColourEcho$Gorge" "today" "[I", Cond.fieldLink RX3 46 "ColourEcho$Gorge" "fog" "Z", Cond.fieldLink RX3 50 "ColourEcho$Gorge" "snow" "Z", Cond.fieldLink RX3 9 "ColourEcho$Gorge" "off" "[I", Cond.fieldLink RX3 15 "ColourEcho$Gorge" "keeps" "[I", Cond.methodLink RX3 67 yX3_seenAgo, Cond.static yX6_capped, Cond.code yX6_capped cX6_capped 1 (some .int), Cond.methodLink RX6 150 yX0_run, Cond.instanceMethod yX0_run, Cond.selects RX0 yX0_run yX0_run, Cond.code yX0_run cX0_run 6 none, Cond.static yX6_has, Cond.code yX6_has cX6_has 2 (some .boolean), Cond.methodLink RX0 36 yX0_offWalls]
def wsX6_forecast_r3 : List Cond := [Cond.instanceMethod yX0_offWalls, Cond.selects RX0 yX0_offWalls yX0_offWalls, Cond.code yX0_offWalls cX0_offWalls 5 (some .int), Cond.fieldLink RX0 40 "ColourEcho$Gorge" "off" "[I", Cond.fieldLink RX0 43 "ColourEcho$Gorge" "keeps" "[I", Cond.methodLink RX6 220 yX0_at, Cond.instanceMethod yX0_at, Cond.selects RX0 yX0_at yX0_at, Cond.code yX0_at cX0_at 2 (some .int)]
def wsX6_forecast : List Cond := .code yX6_forecast cX6_forecast 3 (some .int) :: ((wsX6_forecast_r1 ++ (wsX6_forecast_r2 ++ wsX6_forecast_r3)) ++ wsX60 ++ wsX00 ++ wsX30)
def wsX6_gone_r1 : List Cond := [Cond.fieldLink RX6 36 "ColourEcho" "course" "LColourEcho$Course;", Cond.fieldLink RX6 12 "ColourEcho" "gorge" "LColourEcho$Gorge;", Cond.methodLink RX6 156 Lib.Math.max.name, Cond.static Lib.Math.max.name, Cond.initialized "java/lang/Math", Cond.code Lib.Math.max.name Lib.Math.max.code 2 (some .int), Cond.methodLink RX6 146 yX0_fromNow, Cond.instanceMethod yX0_fromNow, Cond.selects RX0 yX0_fromNow yX0_fromNow, Cond.initialized RX0, Cond.code yX0_fromNow cX0_fromNow 5 none, Cond.fieldLink RX0 11 "ColourEcho$Course" "row" "[I", Cond.fieldLink RX0 15 "ColourEcho$Gorge" "snow" "Z", Cond.methodLink RX0 21 yX3_seenAgo, Cond.instanceMethod yX3_seenAgo, Cond.selects RX3 yX3_seenAgo yX3_seenAgo, Cond.initialized RX3, Cond.code yX3_seenAgo cX3_seenAgo 3 (some .int), Cond.fieldLink RX3 21 "ColourEcho$Gorge" "past" "[I", Cond.methodLink RX0 25 yX3_seenToday, Cond.instanceMethod yX3_seenToday, Cond.selects RX3 yX3_seenToday yX3_seenToday, Cond.code yX3_seenToday cX3_seenToday 5 (some .int), Cond.fieldLink RX3 24 "ColourEcho$Gorge" "today" "[I"]
def wsX6_gone_r2 : List Cond := [Cond.fieldLink RX3 46 "ColourEcho$Gorge" "fog" "Z", Cond.fieldLink RX3 50 "ColourEcho$Gorge" "snow" "Z", Cond.fieldLink RX3 9 "ColourEcho$Gorge" "off" "[I", Cond.fieldLink RX3 15 "ColourEcho$Gorge" "keeps" "[I", Cond.methodLink RX3 67 yX3_seenAgo, Cond.static yX6_capped, Cond.initialized RX6, Cond.code yX6_capped cX6_capped 1 (some .int), Cond.methodLink RX6 150 yX0_run, Cond.instanceMethod yX0_run, Cond.selects RX0 yX0_run yX0_run, Cond.code yX0_run cX0_run 6 none, Cond.static yX6_has, Cond.code yX6_has cX6_has 2 (some .boolean), Cond.methodLink RX0 36 yX0_offWalls, Cond.instanceMethod yX0_offWalls, Cond.selects RX0 yX0_offWalls yX0_offWalls, Cond.code yX0_offWalls cX0_offWalls 5 (some .int), Cond.fieldLink RX0 40 "ColourEcho$Gorge" "off" "[I", Cond.fieldLink RX0 43 "ColourEcho$Gorge" "keeps" "[I", Cond.methodLink RX6 153 yX0_lastSeen, Cond.instanceMethod yX0_lastSeen, Cond.selects RX0 yX0_lastSeen yX0_lastSeen, Cond.code yX0_lastSeen cX0_lastSeen 2 (some .int)]
def wsX6_gone_r3 : List Cond := [Cond.methodLink RX0 46 yX0_at, Cond.instanceMethod yX0_at, Cond.selects RX0 yX0_at yX0_at, Cond.code yX0_at cX0_at 2 (some .int)]
def wsX6_gone : List Cond := .code yX6_gone cX6_gone 3 (some .int) :: ((wsX6_gone_r1 ++ (wsX6_gone_r2 ++ wsX6_gone_r3)) ++ wsX60 ++ wsX00 ++ wsX30)
def wsX6_hue_r1 : List Cond := [Cond.methodLink RX6 139 yX6_isAhead, Cond.static yX6_isAhead, Cond.initialized RX6, Cond.code yX6_isAhead cX6_isAhead 1 (some .boolean), Cond.methodLink RX6 68 yX6_isWithin, Cond.static yX6_isWithin, Cond.code yX6_isWithin cX6_isWithin 3 (some .boolean), Cond.methodLink RX6 142 yX6_seenWith, Cond.instanceMethod yX6_seenWith, Cond.selects RX6 yX6_seenWith yX6_seenWith, Cond.code yX6_seenWith cX6_seenWith 4 (some .int), Cond.fieldLink RX6 36 "ColourEcho" "course" "LColourEcho$Course;", Cond.fieldLink RX6 12 "ColourEcho" "gorge" "LColourEcho$Gorge;", Cond.methodLink RX6 146 yX0_fromNow, Cond.instanceMethod yX0_fromNow, Cond.selects RX0 yX0_fromNow yX0_fromNow, Cond.initialized RX0, Cond.code yX0_fromNow cX0_fromNow 5 none, Cond.fieldLink RX0 11 "ColourEcho$Course" "row" "[I", Cond.fieldLink RX0 15 "ColourEcho$Gorge" "snow" "Z", Cond.methodLink RX0 21 yX3_seenAgo, Cond.instanceMethod yX3_seenAgo, Cond.selects RX3 yX3_seenAgo yX3_seenAgo, Cond.initialized RX3]
def wsX6_hue_r2 : List Cond := [Cond.code yX3_seenAgo cX3_seenAgo 3 (some .int), Cond.fieldLink RX3 21 "ColourEcho$Gorge" "past" "[I", Cond.methodLink RX0 25 yX3_seenToday, Cond.instanceMethod yX3_seenToday, Cond.selects RX3 yX3_seenToday yX3_seenToday, Cond.code yX3_seenToday cX3_seenToday 5 (some .int), Cond.fieldLink RX3 24 "ColourEcho$Gorge" "today" "[I", Cond.fieldLink RX3 46 "ColourEcho$Gorge" "fog" "Z", Cond.fieldLink RX3 50 "ColourEcho$Gorge" "snow" "Z", Cond.fieldLink RX3 9 "ColourEcho$Gorge" "off" "[I", Cond.fieldLink RX3 15 "ColourEcho$Gorge" "keeps" "[I", Cond.methodLink RX3 67 yX3_seenAgo, Cond.static yX6_capped, Cond.code yX6_capped cX6_capped 1 (some .int), Cond.methodLink RX6 150 yX0_run, Cond.instanceMethod yX0_run, Cond.selects RX0 yX0_run yX0_run, Cond.code yX0_run cX0_run 6 none, Cond.static yX6_has, Cond.code yX6_has cX6_has 2 (some .boolean), Cond.methodLink RX0 36 yX0_offWalls, Cond.instanceMethod yX0_offWalls, Cond.selects RX0 yX0_offWalls yX0_offWalls, Cond.code yX0_offWalls cX0_offWalls 5 (some .int)]
def wsX6_hue_r3 : List Cond := [Cond.fieldLink RX0 40 "ColourEcho$Gorge" "off" "[I", Cond.fieldLink RX0 43 "ColourEcho$Gorge" "keeps" "[I", Cond.methodLink RX6 220 yX0_at, Cond.instanceMethod yX0_at, Cond.selects RX0 yX0_at yX0_at, Cond.code yX0_at cX0_at 2 (some .int)]
def wsX6_hue : List Cond := .code yX6_hue cX6_hue 6 (some .int) :: ((wsX6_hue_r1 ++ (wsX6_hue_r2 ++ wsX6_hue_r3)) ++ wsX60 ++ wsX00 ++ wsX30)
def wsX6_leastShow_r1 : List Cond := [Cond.methodLink RX6 142 yX6_seenWith, Cond.instanceMethod yX6_seenWith, Cond.selects RX6 yX6_seenWith yX6_seenWith, Cond.initialized RX6, Cond.code yX6_seenWith cX6_seenWith 4 (some .int), Cond.fieldLink RX6 36 "ColourEcho" "course" "LColourEcho$Course;", Cond.fieldLink RX6 12 "ColourEcho" "gorge" "LColourEcho$Gorge;", Cond.methodLink RX6 146 yX0_fromNow, Cond.instanceMethod yX0_fromNow, Cond.selects RX0 yX0_fromNow yX0_fromNow, Cond.initialized RX0, Cond.code yX0_fromNow cX0_fromNow 5 none, Cond.fieldLink RX0 11 "ColourEcho$Course" "row" "[I", Cond.fieldLink RX0 15 "ColourEcho$Gorge" "snow" "Z", Cond.methodLink RX0 21 yX3_seenAgo, Cond.instanceMethod yX3_seenAgo, Cond.selects RX3 yX3_seenAgo yX3_seenAgo, Cond.initialized RX3, Cond.code yX3_seenAgo cX3_seenAgo 3 (some .int), Cond.fieldLink RX3 21 "ColourEcho$Gorge" "past" "[I", Cond.methodLink RX0 25 yX3_seenToday, Cond.instanceMethod yX3_seenToday, Cond.selects RX3 yX3_seenToday yX3_seenToday, Cond.code yX3_seenToday cX3_seenToday 5 (some .int)]
def wsX6_leastShow_r2 : List Cond := [Cond.fieldLink RX3 24 "ColourEcho$Gorge" "today" "[I", Cond.fieldLink RX3 46 "ColourEcho$Gorge" "fog" "Z", Cond.fieldLink RX3 50 "ColourEcho$Gorge" "snow" "Z", Cond.fieldLink RX3 9 "ColourEcho$Gorge" "off" "[I", Cond.fieldLink RX3 15 "ColourEcho$Gorge" "keeps" "[I", Cond.methodLink RX3 67 yX3_seenAgo, Cond.static yX6_capped, Cond.code yX6_capped cX6_capped 1 (some .int), Cond.methodLink RX6 150 yX0_run, Cond.instanceMethod yX0_run, Cond.selects RX0 yX0_run yX0_run, Cond.code yX0_run cX0_run 6 none, Cond.static yX6_has, Cond.code yX6_has cX6_has 2 (some .boolean), Cond.methodLink RX0 36 yX0_offWalls, Cond.instanceMethod yX0_offWalls, Cond.selects RX0 yX0_offWalls yX0_offWalls, Cond.code yX0_offWalls cX0_offWalls 5 (some .int), Cond.fieldLink RX0 40 "ColourEcho$Gorge" "off" "[I", Cond.fieldLink RX0 43 "ColourEcho$Gorge" "keeps" "[I", Cond.methodLink RX6 220 yX0_at, Cond.instanceMethod yX0_at, Cond.selects RX0 yX0_at yX0_at, Cond.code yX0_at cX0_at 2 (some .int)]
def wsX6_leastShow : List Cond := .code yX6_leastShow cX6_leastShow 8 (some .int) :: ((wsX6_leastShow_r1 ++ wsX6_leastShow_r2) ++ wsX60 ++ wsX00 ++ wsX30)
def wsX6_make_r1 : List Cond := [Cond.methodLink RX6 136 yX6_isColour, Cond.static yX6_isColour, Cond.initialized RX6, Cond.code yX6_isColour cX6_isColour 1 (some .boolean), Cond.methodLink RX6 68 yX6_isWithin, Cond.static yX6_isWithin, Cond.code yX6_isWithin cX6_isWithin 3 (some .boolean), Cond.methodLink RX6 139 yX6_isAhead, Cond.static yX6_isAhead, Cond.code yX6_isAhead cX6_isAhead 1 (some .boolean), Cond.methodLink RX6 89 yX6_isAmount, Cond.static yX6_isAmount, Cond.code yX6_isAmount cX6_isAmount 1 (some .boolean), Cond.methodLink RX6 161 yX6_leastShow, Cond.instanceMethod yX6_leastShow, Cond.selects RX6 yX6_leastShow yX6_leastShow, Cond.code yX6_leastShow cX6_leastShow 8 (some .int), Cond.methodLink RX6 142 yX6_seenWith, Cond.instanceMethod yX6_seenWith, Cond.selects RX6 yX6_seenWith yX6_seenWith, Cond.code yX6_seenWith cX6_seenWith 4 (some .int), Cond.fieldLink RX6 36 "ColourEcho" "course" "LColourEcho$Course;", Cond.fieldLink RX6 12 "ColourEcho" "gorge" "LColourEcho$Gorge;", Cond.methodLink RX6 146 yX0_fromNow]
def wsX6_make_r2 : List Cond := [Cond.instanceMethod yX0_fromNow, Cond.selects RX0 yX0_fromNow yX0_fromNow, Cond.initialized RX0, Cond.code yX0_fromNow cX0_fromNow 5 none, Cond.fieldLink RX0 11 "ColourEcho$Course" "row" "[I", Cond.fieldLink RX0 15 "ColourEcho$Gorge" "snow" "Z", Cond.methodLink RX0 21 yX3_seenAgo, Cond.instanceMethod yX3_seenAgo, Cond.selects RX3 yX3_seenAgo yX3_seenAgo, Cond.initialized RX3, Cond.code yX3_seenAgo cX3_seenAgo 3 (some .int), Cond.fieldLink RX3 21 "ColourEcho$Gorge" "past" "[I", Cond.methodLink RX0 25 yX3_seenToday, Cond.instanceMethod yX3_seenToday, Cond.selects RX3 yX3_seenToday yX3_seenToday, Cond.code yX3_seenToday cX3_seenToday 5 (some .int), Cond.fieldLink RX3 24 "ColourEcho$Gorge" "today" "[I", Cond.fieldLink RX3 46 "ColourEcho$Gorge" "fog" "Z", Cond.fieldLink RX3 50 "ColourEcho$Gorge" "snow" "Z", Cond.fieldLink RX3 9 "ColourEcho$Gorge" "off" "[I", Cond.fieldLink RX3 15 "ColourEcho$Gorge" "keeps" "[I", Cond.methodLink RX3 67 yX3_seenAgo, Cond.static yX6_capped, Cond.code yX6_capped cX6_capped 1 (some .int)]
def wsX6_make_r3 : List Cond := [Cond.methodLink RX6 150 yX0_run, Cond.instanceMethod yX0_run, Cond.selects RX0 yX0_run yX0_run, Cond.code yX0_run cX0_run 6 none, Cond.static yX6_has, Cond.code yX6_has cX6_has 2 (some .boolean), Cond.methodLink RX0 36 yX0_offWalls, Cond.instanceMethod yX0_offWalls, Cond.selects RX0 yX0_offWalls yX0_offWalls, Cond.code yX0_offWalls cX0_offWalls 5 (some .int), Cond.fieldLink RX0 40 "ColourEcho$Gorge" "off" "[I", Cond.fieldLink RX0 43 "ColourEcho$Gorge" "keeps" "[I", Cond.methodLink RX6 220 yX0_at, Cond.instanceMethod yX0_at, Cond.selects RX0 yX0_at yX0_at, Cond.code yX0_at cX0_at 2 (some .int)]
def wsX6_make : List Cond := .code yX6_make cX6_make 6 (some .int) :: ((wsX6_make_r1 ++ (wsX6_make_r2 ++ wsX6_make_r3)) ++ wsX60 ++ wsX00 ++ wsX30)
def wsX6_isSet : List Cond := .code yX6_isSet cX6_isSet 1 (some .boolean) :: ([.methodLink RX6 68 yX6_isWithin, .static yX6_isWithin, .initialized RX6, .code yX6_isWithin cX6_isWithin 3 (some .boolean)])
def wsX6_wishDifference_r1 : List Cond := [Cond.fieldLink RX6 12 "ColourEcho" "gorge" "LColourEcho$Gorge;", Cond.constant RX6 267 (1000000), Cond.methodLink RX6 268 Lib.Math.abs.name, Cond.static Lib.Math.abs.name, Cond.initialized "java/lang/Math", Cond.code Lib.Math.abs.name Lib.Math.abs.code 1 (some .int), Cond.methodLink RX6 264 yX3_worthOfSet, Cond.instanceMethod yX3_worthOfSet, Cond.selects RX3 yX3_worthOfSet yX3_worthOfSet, Cond.initialized RX3, Cond.code yX3_worthOfSet cX3_worthOfSet 5 (some .int), Cond.static yX6_has, Cond.initialized RX6, Cond.code yX6_has cX6_has 2 (some .boolean), Cond.methodLink RX3 63 yX3_worth, Cond.instanceMethod yX3_worth, Cond.selects RX3 yX3_worth yX3_worth, Cond.code yX3_worth cX3_worth 3 (some .int), Cond.fieldLink RX3 18 "ColourEcho$Gorge" "dresses" "[I", Cond.methodLink RX6 142 yX6_seenWith, Cond.instanceMethod yX6_seenWith, Cond.selects RX6 yX6_seenWith yX6_seenWith, Cond.code yX6_seenWith cX6_seenWith 4 (some .int), Cond.fieldLink RX6 36 "ColourEcho" "course" "LColourEcho$Course;"]
def wsX6_wishDifference_r2 : List Cond := [Cond.methodLink RX6 146 yX0_fromNow, Cond.instanceMethod yX0_fromNow, Cond.selects RX0 yX0_fromNow yX0_fromNow, Cond.initialized RX0, Cond.code yX0_fromNow cX0_fromNow 5 none, Cond.fieldLink RX0 11 "ColourEcho$Course" "row" "[I", Cond.fieldLink RX0 15 "ColourEcho$Gorge" "snow" "Z", Cond.methodLink RX0 21 yX3_seenAgo, Cond.instanceMethod yX3_seenAgo, Cond.selects RX3 yX3_seenAgo yX3_seenAgo, Cond.code yX3_seenAgo cX3_seenAgo 3 (some .int), Cond.fieldLink RX3 21 "ColourEcho$Gorge" "past" "[I", Cond.methodLink RX0 25 yX3_seenToday, Cond.instanceMethod yX3_seenToday, Cond.selects RX3 yX3_seenToday yX3_seenToday, Cond.code yX3_seenToday cX3_seenToday 5 (some .int), Cond.fieldLink RX3 24 "ColourEcho$Gorge" "today" "[I", Cond.fieldLink RX3 46 "ColourEcho$Gorge" "fog" "Z", Cond.fieldLink RX3 50 "ColourEcho$Gorge" "snow" "Z", Cond.fieldLink RX3 9 "ColourEcho$Gorge" "off" "[I", Cond.fieldLink RX3 15 "ColourEcho$Gorge" "keeps" "[I", Cond.methodLink RX3 67 yX3_seenAgo, Cond.static yX6_capped, Cond.code yX6_capped cX6_capped 1 (some .int)]
def wsX6_wishDifference_r3 : List Cond := [Cond.methodLink RX6 150 yX0_run, Cond.instanceMethod yX0_run, Cond.selects RX0 yX0_run yX0_run, Cond.code yX0_run cX0_run 6 none, Cond.methodLink RX0 36 yX0_offWalls, Cond.instanceMethod yX0_offWalls, Cond.selects RX0 yX0_offWalls yX0_offWalls, Cond.code yX0_offWalls cX0_offWalls 5 (some .int), Cond.fieldLink RX0 40 "ColourEcho$Gorge" "off" "[I", Cond.fieldLink RX0 43 "ColourEcho$Gorge" "keeps" "[I", Cond.methodLink RX6 220 yX0_at, Cond.instanceMethod yX0_at, Cond.selects RX0 yX0_at yX0_at, Cond.code yX0_at cX0_at 2 (some .int)]
def wsX6_wishDifference : List Cond := .code yX6_wishDifference cX6_wishDifference 7 (some .int) :: ((wsX6_wishDifference_r1 ++ (wsX6_wishDifference_r2 ++ wsX6_wishDifference_r3)) ++ wsX60 ++ wsX30 ++ wsX00)
def wsX6_wish_r1 : List Cond := [Cond.constant RX6 167 (999999999), Cond.methodLink RX6 164 yX6_isSet, Cond.static yX6_isSet, Cond.initialized RX6, Cond.code yX6_isSet cX6_isSet 1 (some .boolean), Cond.methodLink RX6 68 yX6_isWithin, Cond.static yX6_isWithin, Cond.code yX6_isWithin cX6_isWithin 3 (some .boolean), Cond.methodLink RX6 139 yX6_isAhead, Cond.static yX6_isAhead, Cond.code yX6_isAhead cX6_isAhead 1 (some .boolean), Cond.methodLink RX6 168 yX6_wishDifference, Cond.instanceMethod yX6_wishDifference, Cond.selects RX6 yX6_wishDifference yX6_wishDifference, Cond.code yX6_wishDifference cX6_wishDifference 7 (some .int), Cond.fieldLink RX6 12 "ColourEcho" "gorge" "LColourEcho$Gorge;", Cond.constant RX6 267 (1000000), Cond.methodLink RX6 268 Lib.Math.abs.name, Cond.static Lib.Math.abs.name, Cond.initialized "java/lang/Math", Cond.code Lib.Math.abs.name Lib.Math.abs.code 1 (some .int), Cond.methodLink RX6 264 yX3_worthOfSet, Cond.instanceMethod yX3_worthOfSet, Cond.selects RX3 yX3_worthOfSet yX3_worthOfSet]
def wsX6_wish_r2 : List Cond := [Cond.initialized RX3, Cond.code yX3_worthOfSet cX3_worthOfSet 5 (some .int), Cond.static yX6_has, Cond.code yX6_has cX6_has 2 (some .boolean), Cond.methodLink RX3 63 yX3_worth, Cond.instanceMethod yX3_worth, Cond.selects RX3 yX3_worth yX3_worth, Cond.code yX3_worth cX3_worth 3 (some .int), Cond.fieldLink RX3 18 "ColourEcho$Gorge" "dresses" "[I", Cond.methodLink RX6 142 yX6_seenWith, Cond.instanceMethod yX6_seenWith, Cond.selects RX6 yX6_seenWith yX6_seenWith, Cond.code yX6_seenWith cX6_seenWith 4 (some .int), Cond.fieldLink RX6 36 "ColourEcho" "course" "LColourEcho$Course;", Cond.methodLink RX6 146 yX0_fromNow, Cond.instanceMethod yX0_fromNow, Cond.selects RX0 yX0_fromNow yX0_fromNow, Cond.initialized RX0, Cond.code yX0_fromNow cX0_fromNow 5 none, Cond.fieldLink RX0 11 "ColourEcho$Course" "row" "[I", Cond.fieldLink RX0 15 "ColourEcho$Gorge" "snow" "Z", Cond.methodLink RX0 21 yX3_seenAgo, Cond.instanceMethod yX3_seenAgo, Cond.selects RX3 yX3_seenAgo yX3_seenAgo]
def wsX6_wish_r3 : List Cond := [Cond.code yX3_seenAgo cX3_seenAgo 3 (some .int), Cond.fieldLink RX3 21 "ColourEcho$Gorge" "past" "[I", Cond.methodLink RX0 25 yX3_seenToday, Cond.instanceMethod yX3_seenToday, Cond.selects RX3 yX3_seenToday yX3_seenToday, Cond.code yX3_seenToday cX3_seenToday 5 (some .int), Cond.fieldLink RX3 24 "ColourEcho$Gorge" "today" "[I", Cond.fieldLink RX3 46 "ColourEcho$Gorge" "fog" "Z", Cond.fieldLink RX3 50 "ColourEcho$Gorge" "snow" "Z", Cond.fieldLink RX3 9 "ColourEcho$Gorge" "off" "[I", Cond.fieldLink RX3 15 "ColourEcho$Gorge" "keeps" "[I", Cond.methodLink RX3 67 yX3_seenAgo, Cond.static yX6_capped, Cond.code yX6_capped cX6_capped 1 (some .int), Cond.methodLink RX6 150 yX0_run, Cond.instanceMethod yX0_run, Cond.selects RX0 yX0_run yX0_run, Cond.code yX0_run cX0_run 6 none, Cond.methodLink RX0 36 yX0_offWalls, Cond.instanceMethod yX0_offWalls, Cond.selects RX0 yX0_offWalls yX0_offWalls, Cond.code yX0_offWalls cX0_offWalls 5 (some .int), Cond.fieldLink RX0 40 "ColourEcho$Gorge" "off" "[I", Cond.fieldLink RX0 43 "ColourEcho$Gorge" "keeps" "[I"]
def wsX6_wish_r4 : List Cond := [Cond.methodLink RX6 220 yX0_at, Cond.instanceMethod yX0_at, Cond.selects RX0 yX0_at yX0_at, Cond.code yX0_at cX0_at 2 (some .int)]
def wsX6_wish : List Cond := .code yX6_wish cX6_wish 9 (some .int) :: ((wsX6_wish_r1 ++ (wsX6_wish_r2 ++ (wsX6_wish_r3 ++ wsX6_wish_r4))) ++ wsX60 ++ wsX30 ++ wsX00)
def wsJ6_bitCount_0f7a4 : List Cond := .code yJ6_bitCount_0f7a4 cJ6_bitCount_0f7a4 1 (some .int) :: ([.constant RJ6 265 (1431655765), .constant RJ6 266 (858993459), .constant RJ6 267 (252645135)])
def wsX6_fadesWithout_r1 : List Cond := [Cond.fieldLink RX6 16 "ColourEcho" "scratch" "LColourEcho$Gorge;", Cond.fieldLink RX6 12 "ColourEcho" "gorge" "LColourEcho$Gorge;", Cond.fieldLink RX6 72 "ColourEcho$Gorge" "keeps" "[I", Cond.fieldLink RX6 36 "ColourEcho" "course" "LColourEcho$Course;", Cond.methodLink RX6 123 yX3_become, Cond.instanceMethod yX3_become, Cond.selects RX3 yX3_become yX3_become, Cond.initialized RX3, Cond.code yX3_become cX3_become 2 none, Cond.fieldLink RX3 9 "ColourEcho$Gorge" "off" "[I", Cond.methodLink RX3 53 arraycopyName, Cond.native arraycopyName, Cond.static arraycopyName, Cond.initialized "java/lang/System", Cond.fieldLink RX3 15 "ColourEcho$Gorge" "keeps" "[I", Cond.fieldLink RX3 18 "ColourEcho$Gorge" "dresses" "[I", Cond.fieldLink RX3 21 "ColourEcho$Gorge" "past" "[I", Cond.fieldLink RX3 24 "ColourEcho$Gorge" "today" "[I", Cond.fieldLink RX3 27 "ColourEcho$Gorge" "sightDays" "[I", Cond.fieldLink RX3 30 "ColourEcho$Gorge" "sightAmounts" "[I", Cond.fieldLink RX3 33 "ColourEcho$Gorge" "sights" "I", Cond.fieldLink RX3 37 "ColourEcho$Gorge" "most" "I", Cond.fieldLink RX3 40 "ColourEcho$Gorge" "day" "I", Cond.fieldLink RX3 43 "ColourEcho$Gorge" "worn" "I"]
def wsX6_fadesWithout_r2 : List Cond := [Cond.fieldLink RX3 46 "ColourEcho$Gorge" "fog" "Z", Cond.fieldLink RX3 50 "ColourEcho$Gorge" "snow" "Z", Cond.methodLink RX6 184 yX6_has, Cond.static yX6_has, Cond.initialized RX6, Cond.code yX6_has cX6_has 2 (some .boolean), Cond.methodLink RX6 146 yX0_fromNow, Cond.instanceMethod yX0_fromNow, Cond.selects RX0 yX0_fromNow yX0_fromNow, Cond.initialized RX0, Cond.code yX0_fromNow cX0_fromNow 5 none, Cond.fieldLink RX0 11 "ColourEcho$Course" "row" "[I", Cond.fieldLink RX0 15 "ColourEcho$Gorge" "snow" "Z", Cond.methodLink RX0 21 yX3_seenAgo, Cond.instanceMethod yX3_seenAgo, Cond.selects RX3 yX3_seenAgo yX3_seenAgo, Cond.code yX3_seenAgo cX3_seenAgo 3 (some .int), Cond.methodLink RX0 25 yX3_seenToday, Cond.instanceMethod yX3_seenToday, Cond.selects RX3 yX3_seenToday yX3_seenToday, Cond.code yX3_seenToday cX3_seenToday 5 (some .int), Cond.methodLink RX3 67 yX3_seenAgo, Cond.static yX6_capped, Cond.code yX6_capped cX6_capped 1 (some .int)]
def wsX6_fadesWithout_r3 : List Cond := [Cond.methodLink RX6 150 yX0_run, Cond.instanceMethod yX0_run, Cond.selects RX0 yX0_run yX0_run, Cond.code yX0_run cX0_run 6 none, Cond.methodLink RX0 36 yX0_offWalls, Cond.instanceMethod yX0_offWalls, Cond.selects RX0 yX0_offWalls yX0_offWalls, Cond.code yX0_offWalls cX0_offWalls 5 (some .int), Cond.fieldLink RX0 40 "ColourEcho$Gorge" "off" "[I", Cond.fieldLink RX0 43 "ColourEcho$Gorge" "keeps" "[I", Cond.methodLink RX6 271 yX0_mostFrom, Cond.instanceMethod yX0_mostFrom, Cond.selects RX0 yX0_mostFrom yX0_mostFrom, Cond.code yX0_mostFrom cX0_mostFrom 4 (some .int), Cond.methodLink RX0 49 Lib.Math.max.name, Cond.static Lib.Math.max.name, Cond.initialized "java/lang/Math", Cond.code Lib.Math.max.name Lib.Math.max.code 2 (some .int), Cond.methodLink RX0 46 yX0_at, Cond.instanceMethod yX0_at, Cond.selects RX0 yX0_at yX0_at, Cond.code yX0_at cX0_at 2 (some .int)]
def wsX6_fadesWithout : List Cond := .code yX6_fadesWithout cX6_fadesWithout 5 (some .boolean) :: ((wsX6_fadesWithout_r1 ++ (wsX6_fadesWithout_r2 ++ wsX6_fadesWithout_r3)) ++ wsX60 ++ wsX30 ++ wsX00)
def wsX6_whiten_r1 : List Cond := [Cond.methodLink RX6 139 yX6_isAhead, Cond.static yX6_isAhead, Cond.initialized RX6, Cond.code yX6_isAhead cX6_isAhead 1 (some .boolean), Cond.methodLink RX6 68 yX6_isWithin, Cond.static yX6_isWithin, Cond.code yX6_isWithin cX6_isWithin 3 (some .boolean), Cond.methodLink RX6 89 yX6_isAmount, Cond.static yX6_isAmount, Cond.code yX6_isAmount cX6_isAmount 1 (some .boolean), Cond.methodLink RX6 171 yJ6_bitCount_0f7a4, Cond.static yJ6_bitCount_0f7a4, Cond.initialized RJ6, Cond.code yJ6_bitCount_0f7a4 cJ6_bitCount_0f7a4 1 (some .int), Cond.constant RJ6 265 (1431655765), Cond.constant RJ6 266 (858993459), Cond.constant RJ6 267 (252645135), Cond.methodLink RX6 177 yX6_fadesWithout, Cond.instanceMethod yX6_fadesWithout, Cond.selects RX6 yX6_fadesWithout yX6_fadesWithout, Cond.code yX6_fadesWithout cX6_fadesWithout 5 (some .boolean), Cond.fieldLink RX6 16 "ColourEcho" "scratch" "LColourEcho$Gorge;", Cond.fieldLink RX6 12 "ColourEcho" "gorge" "LColourEcho$Gorge;", Cond.fieldLink RX6 72 "ColourEcho$Gorge" "keeps" "[I"]
def wsX6_whiten_r2 : List Cond := [Cond.fieldLink RX6 36 "ColourEcho" "course" "LColourEcho$Course;", Cond.methodLink RX6 123 yX3_become, Cond.instanceMethod yX3_become, Cond.selects RX3 yX3_become yX3_become, Cond.initialized RX3, Cond.code yX3_become cX3_become 2 none, Cond.fieldLink RX3 9 "ColourEcho$Gorge" "off" "[I", Cond.methodLink RX3 53 arraycopyName, Cond.native arraycopyName, Cond.static arraycopyName, Cond.initialized "java/lang/System", Cond.fieldLink RX3 15 "ColourEcho$Gorge" "keeps" "[I", Cond.fieldLink RX3 18 "ColourEcho$Gorge" "dresses" "[I", Cond.fieldLink RX3 21 "ColourEcho$Gorge" "past" "[I", Cond.fieldLink RX3 24 "ColourEcho$Gorge" "today" "[I", Cond.fieldLink RX3 27 "ColourEcho$Gorge" "sightDays" "[I", Cond.fieldLink RX3 30 "ColourEcho$Gorge" "sightAmounts" "[I", Cond.fieldLink RX3 33 "ColourEcho$Gorge" "sights" "I", Cond.fieldLink RX3 37 "ColourEcho$Gorge" "most" "I", Cond.fieldLink RX3 40 "ColourEcho$Gorge" "day" "I", Cond.fieldLink RX3 43 "ColourEcho$Gorge" "worn" "I", Cond.fieldLink RX3 46 "ColourEcho$Gorge" "fog" "Z", Cond.fieldLink RX3 50 "ColourEcho$Gorge" "snow" "Z", Cond.methodLink RX6 184 yX6_has]
def wsX6_whiten_r3 : List Cond := [Cond.static yX6_has, Cond.code yX6_has cX6_has 2 (some .boolean), Cond.methodLink RX6 146 yX0_fromNow, Cond.instanceMethod yX0_fromNow, Cond.selects RX0 yX0_fromNow yX0_fromNow, Cond.initialized RX0, Cond.code yX0_fromNow cX0_fromNow 5 none, Cond.fieldLink RX0 11 "ColourEcho$Course" "row" "[I", Cond.fieldLink RX0 15 "ColourEcho$Gorge" "snow" "Z", Cond.methodLink RX0 21 yX3_seenAgo, Cond.instanceMethod yX3_seenAgo, Cond.selects RX3 yX3_seenAgo yX3_seenAgo, Cond.code yX3_seenAgo cX3_seenAgo 3 (some .int), Cond.methodLink RX0 25 yX3_seenToday, Cond.instanceMethod yX3_seenToday, Cond.selects RX3 yX3_seenToday yX3_seenToday, Cond.code yX3_seenToday cX3_seenToday 5 (some .int), Cond.methodLink RX3 67 yX3_seenAgo, Cond.static yX6_capped, Cond.code yX6_capped cX6_capped 1 (some .int), Cond.methodLink RX6 150 yX0_run, Cond.instanceMethod yX0_run, Cond.selects RX0 yX0_run yX0_run, Cond.code yX0_run cX0_run 6 none]
def wsX6_whiten_r4 : List Cond := [Cond.methodLink RX0 36 yX0_offWalls, Cond.instanceMethod yX0_offWalls, Cond.selects RX0 yX0_offWalls yX0_offWalls, Cond.code yX0_offWalls cX0_offWalls 5 (some .int), Cond.fieldLink RX0 40 "ColourEcho$Gorge" "off" "[I", Cond.fieldLink RX0 43 "ColourEcho$Gorge" "keeps" "[I", Cond.methodLink RX6 271 yX0_mostFrom, Cond.instanceMethod yX0_mostFrom, Cond.selects RX0 yX0_mostFrom yX0_mostFrom, Cond.code yX0_mostFrom cX0_mostFrom 4 (some .int), Cond.methodLink RX0 49 Lib.Math.max.name, Cond.static Lib.Math.max.name, Cond.initialized "java/lang/Math", Cond.code Lib.Math.max.name Lib.Math.max.code 2 (some .int), Cond.methodLink RX0 46 yX0_at, Cond.instanceMethod yX0_at, Cond.selects RX0 yX0_at yX0_at, Cond.code yX0_at cX0_at 2 (some .int)]
def wsX6_whiten : List Cond := .code yX6_whiten cX6_whiten 8 (some .int) :: ((wsX6_whiten_r1 ++ (wsX6_whiten_r2 ++ (wsX6_whiten_r3 ++ wsX6_whiten_r4))) ++ wsX60 ++ wsX30 ++ wsX00)
def wsX6_echoAlone_r1 : List Cond := [Cond.fieldLink RX6 36 "ColourEcho" "course" "LColourEcho$Course;", Cond.fieldLink RX6 12 "ColourEcho" "gorge" "LColourEcho$Gorge;", Cond.methodLink RX6 261 yX0_fromNothing, Cond.instanceMethod yX0_fromNothing, Cond.selects RX0 yX0_fromNothing yX0_fromNothing, Cond.initialized RX0, Cond.code yX0_fromNothing cX0_fromNothing 3 none, Cond.fieldLink RX0 11 "ColourEcho$Course" "row" "[I", Cond.static yX6_capped, Cond.initialized RX6, Cond.code yX6_capped cX6_capped 1 (some .int), Cond.methodLink RX6 150 yX0_run, Cond.instanceMethod yX0_run, Cond.selects RX0 yX0_run yX0_run, Cond.code yX0_run cX0_run 6 none, Cond.static yX6_has, Cond.code yX6_has cX6_has 2 (some .boolean), Cond.methodLink RX0 36 yX0_offWalls, Cond.instanceMethod yX0_offWalls, Cond.selects RX0 yX0_offWalls yX0_offWalls, Cond.code yX0_offWalls cX0_offWalls 5 (some .int), Cond.fieldLink RX0 40 "ColourEcho$Gorge" "off" "[I", Cond.fieldLink RX0 43 "ColourEcho$Gorge" "keeps" "[I", Cond.methodLink RX6 220 yX0_at]
def wsX6_echoAlone_r2 : List Cond := [Cond.instanceMethod yX0_at, Cond.selects RX0 yX0_at yX0_at, Cond.code yX0_at cX0_at 2 (some .int)]
def wsX6_echoAlone : List Cond := .code yX6_echoAlone cX6_echoAlone 3 (some .int) :: ((wsX6_echoAlone_r1 ++ wsX6_echoAlone_r2) ++ wsX60 ++ wsX00 ++ wsX30)
def wsX6_fillEchoes_r1 : List Cond := [Cond.fieldLink RX6 64 "ColourEcho" "echoes" "[I", Cond.fieldLink RX6 12 "ColourEcho" "gorge" "LColourEcho$Gorge;", Cond.methodLink RX6 82 yX3_worth, Cond.instanceMethod yX3_worth, Cond.selects RX3 yX3_worth yX3_worth, Cond.initialized RX3, Cond.code yX3_worth cX3_worth 3 (some .int), Cond.fieldLink RX3 18 "ColourEcho$Gorge" "dresses" "[I", Cond.methodLink RX6 191 yX6_echoAlone, Cond.instanceMethod yX6_echoAlone, Cond.selects RX6 yX6_echoAlone yX6_echoAlone, Cond.initialized RX6, Cond.code yX6_echoAlone cX6_echoAlone 3 (some .int), Cond.fieldLink RX6 36 "ColourEcho" "course" "LColourEcho$Course;", Cond.methodLink RX6 261 yX0_fromNothing, Cond.instanceMethod yX0_fromNothing, Cond.selects RX0 yX0_fromNothing yX0_fromNothing, Cond.initialized RX0, Cond.code yX0_fromNothing cX0_fromNothing 3 none, Cond.fieldLink RX0 11 "ColourEcho$Course" "row" "[I", Cond.static yX6_capped, Cond.code yX6_capped cX6_capped 1 (some .int), Cond.methodLink RX6 150 yX0_run, Cond.instanceMethod yX0_run]
def wsX6_fillEchoes_r2 : List Cond := [Cond.selects RX0 yX0_run yX0_run, Cond.code yX0_run cX0_run 6 none, Cond.static yX6_has, Cond.code yX6_has cX6_has 2 (some .boolean), Cond.methodLink RX0 36 yX0_offWalls, Cond.instanceMethod yX0_offWalls, Cond.selects RX0 yX0_offWalls yX0_offWalls, Cond.code yX0_offWalls cX0_offWalls 5 (some .int), Cond.fieldLink RX0 40 "ColourEcho$Gorge" "off" "[I", Cond.fieldLink RX0 43 "ColourEcho$Gorge" "keeps" "[I", Cond.methodLink RX6 220 yX0_at, Cond.instanceMethod yX0_at, Cond.selects RX0 yX0_at yX0_at, Cond.code yX0_at cX0_at 2 (some .int)]
def wsX6_fillEchoes : List Cond := .code yX6_fillEchoes cX6_fillEchoes 4 none :: ((wsX6_fillEchoes_r1 ++ wsX6_fillEchoes_r2) ++ wsX60 ++ wsX30 ++ wsX00)
def wsX6_echoAlike : List Cond := .code yX6_echoAlike cX6_echoAlike 4 (some .boolean) :: ([.fieldLink RX6 64 "ColourEcho" "echoes" "[I"] ++ wsX60)
def wsX6_apart_r1 : List Cond := [Cond.methodLink RX6 164 yX6_isSet, Cond.static yX6_isSet, Cond.initialized RX6, Cond.code yX6_isSet cX6_isSet 1 (some .boolean), Cond.methodLink RX6 68 yX6_isWithin, Cond.static yX6_isWithin, Cond.code yX6_isWithin cX6_isWithin 3 (some .boolean), Cond.methodLink RX6 139 yX6_isAhead, Cond.static yX6_isAhead, Cond.code yX6_isAhead cX6_isAhead 1 (some .boolean), Cond.methodLink RX6 180 yX6_fillEchoes, Cond.instanceMethod yX6_fillEchoes, Cond.selects RX6 yX6_fillEchoes yX6_fillEchoes, Cond.code yX6_fillEchoes cX6_fillEchoes 4 none, Cond.fieldLink RX6 64 "ColourEcho" "echoes" "[I", Cond.fieldLink RX6 12 "ColourEcho" "gorge" "LColourEcho$Gorge;", Cond.methodLink RX6 82 yX3_worth, Cond.instanceMethod yX3_worth, Cond.selects RX3 yX3_worth yX3_worth, Cond.initialized RX3, Cond.code yX3_worth cX3_worth 3 (some .int), Cond.fieldLink RX3 18 "ColourEcho$Gorge" "dresses" "[I", Cond.methodLink RX6 191 yX6_echoAlone, Cond.instanceMethod yX6_echoAlone]
def wsX6_apart_r2 : List Cond := [Cond.selects RX6 yX6_echoAlone yX6_echoAlone, Cond.code yX6_echoAlone cX6_echoAlone 3 (some .int), Cond.fieldLink RX6 36 "ColourEcho" "course" "LColourEcho$Course;", Cond.methodLink RX6 261 yX0_fromNothing, Cond.instanceMethod yX0_fromNothing, Cond.selects RX0 yX0_fromNothing yX0_fromNothing, Cond.initialized RX0, Cond.code yX0_fromNothing cX0_fromNothing 3 none, Cond.fieldLink RX0 11 "ColourEcho$Course" "row" "[I", Cond.static yX6_capped, Cond.code yX6_capped cX6_capped 1 (some .int), Cond.methodLink RX6 150 yX0_run, Cond.instanceMethod yX0_run, Cond.selects RX0 yX0_run yX0_run, Cond.code yX0_run cX0_run 6 none, Cond.static yX6_has, Cond.code yX6_has cX6_has 2 (some .boolean), Cond.methodLink RX0 36 yX0_offWalls, Cond.instanceMethod yX0_offWalls, Cond.selects RX0 yX0_offWalls yX0_offWalls, Cond.code yX0_offWalls cX0_offWalls 5 (some .int), Cond.fieldLink RX0 40 "ColourEcho$Gorge" "off" "[I", Cond.fieldLink RX0 43 "ColourEcho$Gorge" "keeps" "[I", Cond.methodLink RX6 220 yX0_at]
def wsX6_apart_r3 : List Cond := [Cond.instanceMethod yX0_at, Cond.selects RX0 yX0_at yX0_at, Cond.code yX0_at cX0_at 2 (some .int), Cond.methodLink RX6 184 yX6_has, Cond.methodLink RX6 188 yX6_echoAlike, Cond.instanceMethod yX6_echoAlike, Cond.selects RX6 yX6_echoAlike yX6_echoAlike, Cond.code yX6_echoAlike cX6_echoAlike 4 (some .boolean)]
def wsX6_apart : List Cond := .code yX6_apart cX6_apart 7 (some .int) :: ((wsX6_apart_r1 ++ (wsX6_apart_r2 ++ wsX6_apart_r3)) ++ wsX60 ++ wsX30 ++ wsX00)
def wsX6_spoil_r1 : List Cond := [Cond.fieldLink RX6 12 "ColourEcho" "gorge" "LColourEcho$Gorge;", Cond.methodLink RX6 78 yX6_isDress, Cond.static yX6_isDress, Cond.initialized RX6, Cond.code yX6_isDress cX6_isDress 1 (some .boolean), Cond.methodLink RX6 68 yX6_isWithin, Cond.static yX6_isWithin, Cond.code yX6_isWithin cX6_isWithin 3 (some .boolean), Cond.methodLink RX6 139 yX6_isAhead, Cond.static yX6_isAhead, Cond.code yX6_isAhead cX6_isAhead 1 (some .boolean), Cond.methodLink RX6 82 yX3_worth, Cond.instanceMethod yX3_worth, Cond.selects RX3 yX3_worth yX3_worth, Cond.initialized RX3, Cond.code yX3_worth cX3_worth 3 (some .int), Cond.fieldLink RX3 18 "ColourEcho$Gorge" "dresses" "[I", Cond.methodLink RX6 191 yX6_echoAlone, Cond.instanceMethod yX6_echoAlone, Cond.selects RX6 yX6_echoAlone yX6_echoAlone, Cond.code yX6_echoAlone cX6_echoAlone 3 (some .int), Cond.fieldLink RX6 36 "ColourEcho" "course" "LColourEcho$Course;", Cond.methodLink RX6 261 yX0_fromNothing, Cond.instanceMethod yX0_fromNothing]
def wsX6_spoil_r2 : List Cond := [Cond.selects RX0 yX0_fromNothing yX0_fromNothing, Cond.initialized RX0, Cond.code yX0_fromNothing cX0_fromNothing 3 none, Cond.fieldLink RX0 11 "ColourEcho$Course" "row" "[I", Cond.static yX6_capped, Cond.code yX6_capped cX6_capped 1 (some .int), Cond.methodLink RX6 150 yX0_run, Cond.instanceMethod yX0_run, Cond.selects RX0 yX0_run yX0_run, Cond.code yX0_run cX0_run 6 none, Cond.static yX6_has, Cond.code yX6_has cX6_has 2 (some .boolean), Cond.methodLink RX0 36 yX0_offWalls, Cond.instanceMethod yX0_offWalls, Cond.selects RX0 yX0_offWalls yX0_offWalls, Cond.code yX0_offWalls cX0_offWalls 5 (some .int), Cond.fieldLink RX0 40 "ColourEcho$Gorge" "off" "[I", Cond.fieldLink RX0 43 "ColourEcho$Gorge" "keeps" "[I", Cond.methodLink RX6 220 yX0_at, Cond.instanceMethod yX0_at, Cond.selects RX0 yX0_at yX0_at, Cond.code yX0_at cX0_at 2 (some .int)]
def wsX6_spoil : List Cond := .code yX6_spoil cX6_spoil 8 (some .int) :: ((wsX6_spoil_r1 ++ wsX6_spoil_r2) ++ wsX60 ++ wsX30 ++ wsX00)
def wsX6_seen : List Cond := .code yX6_seen cX6_seen 3 (some .int) :: ([.fieldLink RX6 12 "ColourEcho" "gorge" "LColourEcho$Gorge;", .fieldLink RX6 194 "ColourEcho$Gorge" "sights" "I", .fieldLink RX6 197 "ColourEcho$Gorge" "sightDays" "[I", .fieldLink RX6 200 "ColourEcho$Gorge" "sightAmounts" "[I", .methodLink RX6 139 yX6_isAhead, .static yX6_isAhead, .initialized RX6, .code yX6_isAhead cX6_isAhead 1 (some .boolean), .methodLink RX6 68 yX6_isWithin, .static yX6_isWithin, .code yX6_isWithin cX6_isWithin 3 (some .boolean), .methodLink RX6 89 yX6_isAmount, .static yX6_isAmount, .code yX6_isAmount cX6_isAmount 1 (some .boolean)] ++ wsX60 ++ wsX30)
def wsX6_forget : List Cond := .code yX6_forget cX6_forget 2 (some .int) :: ([.fieldLink RX6 12 "ColourEcho" "gorge" "LColourEcho$Gorge;", .fieldLink RX6 194 "ColourEcho$Gorge" "sights" "I"] ++ wsX60 ++ wsX30)
def wsX6_shown_r1 : List Cond := [Cond.fieldLink RX6 43 "ColourEcho" "guesses" "LColourEcho$Guesses;", Cond.fieldLink RX6 12 "ColourEcho" "gorge" "LColourEcho$Gorge;", Cond.fieldLink RX6 36 "ColourEcho" "course" "LColourEcho$Course;", Cond.fieldLink RX6 207 "ColourEcho$Guesses" "count" "I", Cond.fieldLink RX6 208 "ColourEcho$Guesses" "fitting" "[I", Cond.methodLink RX6 203 yX4_gather, Cond.instanceMethod yX4_gather, Cond.selects RX4 yX4_gather yX4_gather, Cond.initialized RX4, Cond.code yX4_gather cX4_gather 5 none, Cond.fieldLink RX4 21 "ColourEcho$Guesses" "count" "I", Cond.fieldLink RX4 15 "ColourEcho$Guesses" "fitting" "[I", Cond.methodLink RX4 25 yX4_fillEcho, Cond.instanceMethod yX4_fillEcho, Cond.selects RX4 yX4_fillEcho yX4_fillEcho, Cond.code yX4_fillEcho cX4_fillEcho 5 none, Cond.fieldLink RX4 9 "ColourEcho$Guesses" "echo" "[I", Cond.methodLink RX4 33 yX0_fromNothing, Cond.instanceMethod yX0_fromNothing, Cond.selects RX0 yX0_fromNothing yX0_fromNothing, Cond.initialized RX0, Cond.code yX0_fromNothing cX0_fromNothing 3 none, Cond.fieldLink RX0 11 "ColourEcho$Course" "row" "[I", Cond.static yX6_capped]
def wsX6_shown_r2 : List Cond := [Cond.initialized RX6, Cond.code yX6_capped cX6_capped 1 (some .int), Cond.methodLink RX4 39 yX0_run, Cond.instanceMethod yX0_run, Cond.selects RX0 yX0_run yX0_run, Cond.code yX0_run cX0_run 6 none, Cond.static yX6_has, Cond.code yX6_has cX6_has 2 (some .boolean), Cond.methodLink RX0 36 yX0_offWalls, Cond.instanceMethod yX0_offWalls, Cond.selects RX0 yX0_offWalls yX0_offWalls, Cond.code yX0_offWalls cX0_offWalls 5 (some .int), Cond.fieldLink RX0 40 "ColourEcho$Gorge" "off" "[I", Cond.fieldLink RX0 43 "ColourEcho$Gorge" "keeps" "[I", Cond.methodLink RX4 43 yX0_at, Cond.instanceMethod yX0_at, Cond.selects RX0 yX0_at yX0_at, Cond.code yX0_at cX0_at 2 (some .int), Cond.methodLink RX4 29 yX4_fits, Cond.instanceMethod yX4_fits, Cond.selects RX4 yX4_fits yX4_fits, Cond.code yX4_fits cX4_fits 4 (some .boolean), Cond.fieldLink RX4 47 "ColourEcho$Gorge" "sights" "I", Cond.fieldLink RX4 52 "ColourEcho$Gorge" "sightDays" "[I"]
def wsX6_shown_r3 : List Cond := [Cond.fieldLink RX4 59 "ColourEcho$Gorge" "sightAmounts" "[I", Cond.methodLink RX4 55 yX4_seenBy, Cond.instanceMethod yX4_seenBy, Cond.selects RX4 yX4_seenBy yX4_seenBy, Cond.code yX4_seenBy cX4_seenBy 4 (some .int), Cond.methodLink RX6 68 yX6_isWithin, Cond.static yX6_isWithin, Cond.code yX6_isWithin cX6_isWithin 3 (some .boolean)]
def wsX6_shown : List Cond := .code yX6_shown cX6_shown 2 (some .int) :: ((wsX6_shown_r1 ++ (wsX6_shown_r2 ++ wsX6_shown_r3)) ++ wsX60 ++ wsX40 ++ wsX00 ++ wsX30)
def wsX6_look_r1 : List Cond := [Cond.fieldLink RX6 43 "ColourEcho" "guesses" "LColourEcho$Guesses;", Cond.fieldLink RX6 12 "ColourEcho" "gorge" "LColourEcho$Gorge;", Cond.fieldLink RX6 36 "ColourEcho" "course" "LColourEcho$Course;", Cond.fieldLink RX6 207 "ColourEcho$Guesses" "count" "I", Cond.methodLink RX6 68 yX6_isWithin, Cond.static yX6_isWithin, Cond.initialized RX6, Cond.code yX6_isWithin cX6_isWithin 3 (some .boolean), Cond.methodLink RX6 203 yX4_gather, Cond.instanceMethod yX4_gather, Cond.selects RX4 yX4_gather yX4_gather, Cond.initialized RX4, Cond.code yX4_gather cX4_gather 5 none, Cond.fieldLink RX4 21 "ColourEcho$Guesses" "count" "I", Cond.fieldLink RX4 15 "ColourEcho$Guesses" "fitting" "[I", Cond.methodLink RX4 25 yX4_fillEcho, Cond.instanceMethod yX4_fillEcho, Cond.selects RX4 yX4_fillEcho yX4_fillEcho, Cond.code yX4_fillEcho cX4_fillEcho 5 none, Cond.fieldLink RX4 9 "ColourEcho$Guesses" "echo" "[I", Cond.methodLink RX4 33 yX0_fromNothing, Cond.instanceMethod yX0_fromNothing, Cond.selects RX0 yX0_fromNothing yX0_fromNothing, Cond.initialized RX0]
def wsX6_look_r2 : List Cond := [Cond.code yX0_fromNothing cX0_fromNothing 3 none, Cond.fieldLink RX0 11 "ColourEcho$Course" "row" "[I", Cond.static yX6_capped, Cond.code yX6_capped cX6_capped 1 (some .int), Cond.methodLink RX4 39 yX0_run, Cond.instanceMethod yX0_run, Cond.selects RX0 yX0_run yX0_run, Cond.code yX0_run cX0_run 6 none, Cond.static yX6_has, Cond.code yX6_has cX6_has 2 (some .boolean), Cond.methodLink RX0 36 yX0_offWalls, Cond.instanceMethod yX0_offWalls, Cond.selects RX0 yX0_offWalls yX0_offWalls, Cond.code yX0_offWalls cX0_offWalls 5 (some .int), Cond.fieldLink RX0 40 "ColourEcho$Gorge" "off" "[I", Cond.fieldLink RX0 43 "ColourEcho$Gorge" "keeps" "[I", Cond.methodLink RX4 43 yX0_at, Cond.instanceMethod yX0_at, Cond.selects RX0 yX0_at yX0_at, Cond.code yX0_at cX0_at 2 (some .int), Cond.methodLink RX4 29 yX4_fits, Cond.instanceMethod yX4_fits, Cond.selects RX4 yX4_fits yX4_fits, Cond.code yX4_fits cX4_fits 4 (some .boolean)]
def wsX6_look_r3 : List Cond := [Cond.fieldLink RX4 47 "ColourEcho$Gorge" "sights" "I", Cond.fieldLink RX4 52 "ColourEcho$Gorge" "sightDays" "[I", Cond.fieldLink RX4 59 "ColourEcho$Gorge" "sightAmounts" "[I", Cond.methodLink RX4 55 yX4_seenBy, Cond.instanceMethod yX4_seenBy, Cond.selects RX4 yX4_seenBy yX4_seenBy, Cond.code yX4_seenBy cX4_seenBy 4 (some .int), Cond.methodLink RX6 211 yX4_mostLeft, Cond.instanceMethod yX4_mostLeft, Cond.selects RX4 yX4_mostLeft yX4_mostLeft, Cond.code yX4_mostLeft cX4_mostLeft 5 (some .int), Cond.fieldLink RX4 18 "ColourEcho$Guesses" "tally" "[I", Cond.methodLink RX4 62 Lib.Math.max.name, Cond.static Lib.Math.max.name, Cond.initialized "java/lang/Math", Cond.code Lib.Math.max.name Lib.Math.max.code 2 (some .int)]
def wsX6_look : List Cond := .code yX6_look cX6_look 6 (some .int) :: ((wsX6_look_r1 ++ (wsX6_look_r2 ++ wsX6_look_r3)) ++ wsX60 ++ wsX40 ++ wsX00 ++ wsX30)
def wsX6_power : List Cond := .code yX6_power cX6_power 5 (some .long) :: ([])
def wsX6_fogWeight : List Cond := .code yX6_fogWeight cX6_fogWeight 4 (some .long) :: ([.methodLink RX6 171 yJ6_bitCount_0f7a4, .static yJ6_bitCount_0f7a4, .initialized RJ6, .code yJ6_bitCount_0f7a4 cJ6_bitCount_0f7a4 1 (some .int), .constant RJ6 265 (1431655765), .constant RJ6 266 (858993459), .constant RJ6 267 (252645135), .methodLink RX6 223 yX6_power, .static yX6_power, .initialized RX6, .code yX6_power cX6_power 5 (some .long)])
def wsX6_commonDivisor : List Cond := .code yX6_commonDivisor cX6_commonDivisor 11 (some .long) :: ([])
def wsX6_fogs_r1 : List Cond := [Cond.constantLong RX6 214 (-1000000000000000002), Cond.fieldLink RX6 36 "ColourEcho" "course" "LColourEcho$Course;", Cond.fieldLink RX6 12 "ColourEcho" "gorge" "LColourEcho$Gorge;", Cond.methodLink RX6 68 yX6_isWithin, Cond.static yX6_isWithin, Cond.initialized RX6, Cond.code yX6_isWithin cX6_isWithin 3 (some .boolean), Cond.methodLink RX6 136 yX6_isColour, Cond.static yX6_isColour, Cond.code yX6_isColour cX6_isColour 1 (some .boolean), Cond.methodLink RX6 89 yX6_isAmount, Cond.static yX6_isAmount, Cond.code yX6_isAmount cX6_isAmount 1 (some .boolean), Cond.methodLink RX6 146 yX0_fromNow, Cond.instanceMethod yX0_fromNow, Cond.selects RX0 yX0_fromNow yX0_fromNow, Cond.initialized RX0, Cond.code yX0_fromNow cX0_fromNow 5 none, Cond.fieldLink RX0 11 "ColourEcho$Course" "row" "[I", Cond.fieldLink RX0 15 "ColourEcho$Gorge" "snow" "Z", Cond.methodLink RX0 21 yX3_seenAgo, Cond.instanceMethod yX3_seenAgo, Cond.selects RX3 yX3_seenAgo yX3_seenAgo, Cond.initialized RX3]
def wsX6_fogs_r2 : List Cond := [Cond.code yX3_seenAgo cX3_seenAgo 3 (some .int), Cond.fieldLink RX3 21 "ColourEcho$Gorge" "past" "[I", Cond.methodLink RX0 25 yX3_seenToday, Cond.instanceMethod yX3_seenToday, Cond.selects RX3 yX3_seenToday yX3_seenToday, Cond.code yX3_seenToday cX3_seenToday 5 (some .int), Cond.fieldLink RX3 24 "ColourEcho$Gorge" "today" "[I", Cond.fieldLink RX3 46 "ColourEcho$Gorge" "fog" "Z", Cond.fieldLink RX3 50 "ColourEcho$Gorge" "snow" "Z", Cond.fieldLink RX3 9 "ColourEcho$Gorge" "off" "[I", Cond.fieldLink RX3 15 "ColourEcho$Gorge" "keeps" "[I", Cond.methodLink RX3 67 yX3_seenAgo, Cond.static yX6_capped, Cond.code yX6_capped cX6_capped 1 (some .int), Cond.methodLink RX6 216 yX6_fogWeight, Cond.static yX6_fogWeight, Cond.code yX6_fogWeight cX6_fogWeight 4 (some .long), Cond.methodLink RX6 171 yJ6_bitCount_0f7a4, Cond.static yJ6_bitCount_0f7a4, Cond.initialized RJ6, Cond.code yJ6_bitCount_0f7a4 cJ6_bitCount_0f7a4 1 (some .int), Cond.constant RJ6 265 (1431655765), Cond.constant RJ6 266 (858993459), Cond.constant RJ6 267 (252645135)]
def wsX6_fogs_r3 : List Cond := [Cond.methodLink RX6 223 yX6_power, Cond.static yX6_power, Cond.code yX6_power cX6_power 5 (some .long), Cond.methodLink RX6 150 yX0_run, Cond.instanceMethod yX0_run, Cond.selects RX0 yX0_run yX0_run, Cond.code yX0_run cX0_run 6 none, Cond.static yX6_has, Cond.code yX6_has cX6_has 2 (some .boolean), Cond.methodLink RX0 36 yX0_offWalls, Cond.instanceMethod yX0_offWalls, Cond.selects RX0 yX0_offWalls yX0_offWalls, Cond.code yX0_offWalls cX0_offWalls 5 (some .int), Cond.fieldLink RX0 40 "ColourEcho$Gorge" "off" "[I", Cond.fieldLink RX0 43 "ColourEcho$Gorge" "keeps" "[I", Cond.methodLink RX6 220 yX0_at, Cond.instanceMethod yX0_at, Cond.selects RX0 yX0_at yX0_at, Cond.code yX0_at cX0_at 2 (some .int), Cond.methodLink RX6 227 yX6_commonDivisor, Cond.static yX6_commonDivisor, Cond.code yX6_commonDivisor cX6_commonDivisor 11 (some .long)]
def wsX6_fogs : List Cond := .code yX6_fogs cX6_fogs 15 (some .long) :: ((wsX6_fogs_r1 ++ (wsX6_fogs_r2 ++ wsX6_fogs_r3)) ++ wsX60 ++ wsX00 ++ wsX30)
def wsX6_turns_r1 : List Cond := [Cond.fieldLink RX6 50 "ColourEcho" "game" "LColourEcho$Game;", Cond.fieldLink RX6 12 "ColourEcho" "gorge" "LColourEcho$Gorge;", Cond.methodLink RX6 164 yX6_isSet, Cond.static yX6_isSet, Cond.initialized RX6, Cond.code yX6_isSet cX6_isSet 1 (some .boolean), Cond.methodLink RX6 68 yX6_isWithin, Cond.static yX6_isWithin, Cond.code yX6_isWithin cX6_isWithin 3 (some .boolean), Cond.methodLink RX6 231 yX2_solve, Cond.instanceMethod yX2_solve, Cond.selects RX2 yX2_solve yX2_solve, Cond.initialized RX2, Cond.code yX2_solve cX2_solve 4 none, Cond.fieldLink RX2 18 "ColourEcho$Game" "whole" "I", Cond.fieldLink RX2 9 "ColourEcho$Game" "best" "[I", Cond.fieldLink RX2 15 "ColourEcho$Game" "choice" "[I", Cond.methodLink RX2 22 yX2_solveLeft, Cond.instanceMethod yX2_solveLeft, Cond.selects RX2 yX2_solveLeft yX2_solveLeft, Cond.code yX2_solveLeft cX2_solveLeft 6 none, Cond.static yX6_has, Cond.code yX6_has cX6_has 2 (some .boolean), Cond.methodLink RX2 30 yX2_loses]
def wsX6_turns_r2 : List Cond := [Cond.instanceMethod yX2_loses, Cond.selects RX2 yX2_loses yX2_loses, Cond.code yX2_loses cX2_loses 4 (some .boolean), Cond.fieldLink RX2 43 "ColourEcho$Gorge" "most" "I", Cond.methodLink RX2 34 yX3_worthOfSet, Cond.instanceMethod yX3_worthOfSet, Cond.selects RX3 yX3_worthOfSet yX3_worthOfSet, Cond.initialized RX3, Cond.code yX3_worthOfSet cX3_worthOfSet 5 (some .int), Cond.methodLink RX3 63 yX3_worth, Cond.instanceMethod yX3_worth, Cond.selects RX3 yX3_worth yX3_worth, Cond.code yX3_worth cX3_worth 3 (some .int), Cond.fieldLink RX3 18 "ColourEcho$Gorge" "dresses" "[I", Cond.methodLink RX2 40 yX3_seenToday, Cond.instanceMethod yX3_seenToday, Cond.selects RX3 yX3_seenToday yX3_seenToday, Cond.code yX3_seenToday cX3_seenToday 5 (some .int), Cond.fieldLink RX3 24 "ColourEcho$Gorge" "today" "[I", Cond.fieldLink RX3 46 "ColourEcho$Gorge" "fog" "Z", Cond.fieldLink RX3 50 "ColourEcho$Gorge" "snow" "Z", Cond.fieldLink RX3 9 "ColourEcho$Gorge" "off" "[I", Cond.fieldLink RX3 15 "ColourEcho$Gorge" "keeps" "[I", Cond.methodLink RX3 67 yX3_seenAgo]
def wsX6_turns_r3 : List Cond := [Cond.instanceMethod yX3_seenAgo, Cond.selects RX3 yX3_seenAgo yX3_seenAgo, Cond.code yX3_seenAgo cX3_seenAgo 3 (some .int), Cond.fieldLink RX3 21 "ColourEcho$Gorge" "past" "[I", Cond.static yX6_capped, Cond.code yX6_capped cX6_capped 1 (some .int), Cond.methodLink RX6 235 yX2_winner, Cond.instanceMethod yX2_winner, Cond.selects RX2 yX2_winner yX2_winner, Cond.code yX2_winner cX2_winner 1 (some .int), Cond.methodLink RX6 238 yX2_opening, Cond.instanceMethod yX2_opening, Cond.selects RX2 yX2_opening yX2_opening, Cond.code yX2_opening cX2_opening 1 (some .int)]
def wsX6_turns : List Cond := .code yX6_turns cX6_turns 3 (some .int) :: ((wsX6_turns_r1 ++ (wsX6_turns_r2 ++ wsX6_turns_r3)) ++ wsX60 ++ wsX20 ++ wsX30)
def wsX6_year_r1 : List Cond := [Cond.fieldLink RX6 16 "ColourEcho" "scratch" "LColourEcho$Gorge;", Cond.fieldLink RX6 12 "ColourEcho" "gorge" "LColourEcho$Gorge;", Cond.constant RX6 241 (65537), Cond.methodLink RX6 156 Lib.Math.max.name, Cond.static Lib.Math.max.name, Cond.initialized "java/lang/Math", Cond.code Lib.Math.max.name Lib.Math.max.code 2 (some .int), Cond.methodLink RX6 68 yX6_isWithin, Cond.static yX6_isWithin, Cond.initialized RX6, Cond.code yX6_isWithin cX6_isWithin 3 (some .boolean), Cond.methodLink RX6 123 yX3_become, Cond.instanceMethod yX3_become, Cond.selects RX3 yX3_become yX3_become, Cond.initialized RX3, Cond.code yX3_become cX3_become 2 none, Cond.fieldLink RX3 9 "ColourEcho$Gorge" "off" "[I", Cond.methodLink RX3 53 arraycopyName, Cond.native arraycopyName, Cond.static arraycopyName, Cond.initialized "java/lang/System", Cond.fieldLink RX3 15 "ColourEcho$Gorge" "keeps" "[I", Cond.fieldLink RX3 18 "ColourEcho$Gorge" "dresses" "[I", Cond.fieldLink RX3 21 "ColourEcho$Gorge" "past" "[I"]
def wsX6_year_r2 : List Cond := [Cond.fieldLink RX3 24 "ColourEcho$Gorge" "today" "[I", Cond.fieldLink RX3 27 "ColourEcho$Gorge" "sightDays" "[I", Cond.fieldLink RX3 30 "ColourEcho$Gorge" "sightAmounts" "[I", Cond.fieldLink RX3 33 "ColourEcho$Gorge" "sights" "I", Cond.fieldLink RX3 37 "ColourEcho$Gorge" "most" "I", Cond.fieldLink RX3 40 "ColourEcho$Gorge" "day" "I", Cond.fieldLink RX3 43 "ColourEcho$Gorge" "worn" "I", Cond.fieldLink RX3 46 "ColourEcho$Gorge" "fog" "Z", Cond.fieldLink RX3 50 "ColourEcho$Gorge" "snow" "Z", Cond.methodLink RX6 242 yX3_endDay, Cond.instanceMethod yX3_endDay, Cond.selects RX3 yX3_endDay yX3_endDay, Cond.code yX3_endDay cX3_endDay 5 none, Cond.methodLink RX3 74 yX3_seenToday, Cond.instanceMethod yX3_seenToday, Cond.selects RX3 yX3_seenToday yX3_seenToday, Cond.code yX3_seenToday cX3_seenToday 5 (some .int), Cond.methodLink RX3 67 yX3_seenAgo, Cond.instanceMethod yX3_seenAgo, Cond.selects RX3 yX3_seenAgo yX3_seenAgo, Cond.code yX3_seenAgo cX3_seenAgo 3 (some .int), Cond.static yX6_capped, Cond.code yX6_capped cX6_capped 1 (some .int), Cond.methodLink RX6 245 yX3_draw]
def wsX6_year_r3 : List Cond := [Cond.instanceMethod yX3_draw, Cond.selects RX3 yX3_draw yX3_draw, Cond.code yX3_draw cX3_draw 2 none, Cond.methodLink RX6 248 yX3_isOver, Cond.instanceMethod yX3_isOver, Cond.selects RX3 yX3_isOver yX3_isOver, Cond.code yX3_isOver cX3_isOver 1 (some .boolean), Cond.methodLink RX6 251 yX3_mostSeen, Cond.instanceMethod yX3_mostSeen, Cond.selects RX3 yX3_mostSeen yX3_mostSeen, Cond.code yX3_mostSeen cX3_mostSeen 1 (some .int), Cond.methodLink RX3 77 Lib.Math.max.name, Cond.methodLink RX6 130 yX3_seenToday]
def wsX6_year : List Cond := .code yX6_year cX6_year 8 (some .int) :: ((wsX6_year_r1 ++ (wsX6_year_r2 ++ wsX6_year_r3)) ++ wsX60 ++ wsX30)
def wsX6_imageOf : List Cond := .code yX6_imageOf cX6_imageOf 2 (some (.object "ColourEcho$Gorge")) :: ([.fieldLink RX6 54 "ColourEcho" "image0" "LColourEcho$Gorge;", .fieldLink RX6 57 "ColourEcho" "image1" "LColourEcho$Gorge;"] ++ wsX60)
def wsX6_image_r1 : List Cond := [Cond.fieldLink RX6 12 "ColourEcho" "gorge" "LColourEcho$Gorge;", Cond.fieldLink RX6 60 "ColourEcho" "kept" "[Z", Cond.methodLink RX6 68 yX6_isWithin, Cond.static yX6_isWithin, Cond.initialized RX6, Cond.code yX6_isWithin cX6_isWithin 3 (some .boolean), Cond.methodLink RX6 254 yX6_imageOf, Cond.instanceMethod yX6_imageOf, Cond.selects RX6 yX6_imageOf yX6_imageOf, Cond.code yX6_imageOf cX6_imageOf 2 (some (.object "ColourEcho$Gorge")), Cond.fieldLink RX6 54 "ColourEcho" "image0" "LColourEcho$Gorge;", Cond.fieldLink RX6 57 "ColourEcho" "image1" "LColourEcho$Gorge;", Cond.methodLink RX6 123 yX3_become, Cond.instanceMethod yX3_become, Cond.selects RX3 yX3_become yX3_become, Cond.initialized RX3, Cond.code yX3_become cX3_become 2 none, Cond.fieldLink RX3 9 "ColourEcho$Gorge" "off" "[I", Cond.methodLink RX3 53 arraycopyName, Cond.native arraycopyName, Cond.static arraycopyName, Cond.initialized "java/lang/System", Cond.fieldLink RX3 15 "ColourEcho$Gorge" "keeps" "[I", Cond.fieldLink RX3 18 "ColourEcho$Gorge" "dresses" "[I"]
def wsX6_image_r2 : List Cond := [Cond.fieldLink RX3 21 "ColourEcho$Gorge" "past" "[I", Cond.fieldLink RX3 24 "ColourEcho$Gorge" "today" "[I", Cond.fieldLink RX3 27 "ColourEcho$Gorge" "sightDays" "[I", Cond.fieldLink RX3 30 "ColourEcho$Gorge" "sightAmounts" "[I", Cond.fieldLink RX3 33 "ColourEcho$Gorge" "sights" "I", Cond.fieldLink RX3 37 "ColourEcho$Gorge" "most" "I", Cond.fieldLink RX3 40 "ColourEcho$Gorge" "day" "I", Cond.fieldLink RX3 43 "ColourEcho$Gorge" "worn" "I", Cond.fieldLink RX3 46 "ColourEcho$Gorge" "fog" "Z", Cond.fieldLink RX3 50 "ColourEcho$Gorge" "snow" "Z"]
def wsX6_image : List Cond := .code yX6_image cX6_image 2 (some .int) :: ((wsX6_image_r1 ++ wsX6_image_r2) ++ wsX60 ++ wsX30)
def wsX6_restore_r1 : List Cond := [Cond.fieldLink RX6 60 "ColourEcho" "kept" "[Z", Cond.fieldLink RX6 12 "ColourEcho" "gorge" "LColourEcho$Gorge;", Cond.methodLink RX6 68 yX6_isWithin, Cond.static yX6_isWithin, Cond.initialized RX6, Cond.code yX6_isWithin cX6_isWithin 3 (some .boolean), Cond.methodLink RX6 254 yX6_imageOf, Cond.instanceMethod yX6_imageOf, Cond.selects RX6 yX6_imageOf yX6_imageOf, Cond.code yX6_imageOf cX6_imageOf 2 (some (.object "ColourEcho$Gorge")), Cond.fieldLink RX6 54 "ColourEcho" "image0" "LColourEcho$Gorge;", Cond.fieldLink RX6 57 "ColourEcho" "image1" "LColourEcho$Gorge;", Cond.methodLink RX6 123 yX3_become, Cond.instanceMethod yX3_become, Cond.selects RX3 yX3_become yX3_become, Cond.initialized RX3, Cond.code yX3_become cX3_become 2 none, Cond.fieldLink RX3 9 "ColourEcho$Gorge" "off" "[I", Cond.methodLink RX3 53 arraycopyName, Cond.native arraycopyName, Cond.static arraycopyName, Cond.initialized "java/lang/System", Cond.fieldLink RX3 15 "ColourEcho$Gorge" "keeps" "[I", Cond.fieldLink RX3 18 "ColourEcho$Gorge" "dresses" "[I"]
def wsX6_restore_r2 : List Cond := [Cond.fieldLink RX3 21 "ColourEcho$Gorge" "past" "[I", Cond.fieldLink RX3 24 "ColourEcho$Gorge" "today" "[I", Cond.fieldLink RX3 27 "ColourEcho$Gorge" "sightDays" "[I", Cond.fieldLink RX3 30 "ColourEcho$Gorge" "sightAmounts" "[I", Cond.fieldLink RX3 33 "ColourEcho$Gorge" "sights" "I", Cond.fieldLink RX3 37 "ColourEcho$Gorge" "most" "I", Cond.fieldLink RX3 40 "ColourEcho$Gorge" "day" "I", Cond.fieldLink RX3 43 "ColourEcho$Gorge" "worn" "I", Cond.fieldLink RX3 46 "ColourEcho$Gorge" "fog" "Z", Cond.fieldLink RX3 50 "ColourEcho$Gorge" "snow" "Z"]
def wsX6_restore : List Cond := .code yX6_restore cX6_restore 2 (some .int) :: ((wsX6_restore_r1 ++ wsX6_restore_r2) ++ wsX60 ++ wsX30)
def wsX6_toldOfToday : List Cond := .code yX6_toldOfToday cX6_toldOfToday 2 (some .int) :: ([.fieldLink RX6 22 "ColourEcho" "pad" "LColourEcho$Pad;", .fieldLink RX6 96 "ColourEcho$Pad" "count" "I", .fieldLink RX6 12 "ColourEcho" "gorge" "LColourEcho$Gorge;", .fieldLink RX6 127 "ColourEcho$Gorge" "day" "I", .fieldLink RX6 92 "ColourEcho$Gorge" "most" "I", .fieldLink RX6 194 "ColourEcho$Gorge" "sights" "I", .fieldLink RX6 274 "ColourEcho$Gorge" "fog" "Z", .fieldLink RX6 278 "ColourEcho$Gorge" "snow" "Z", .fieldLink RX6 281 "ColourEcho$Gorge" "worn" "I"] ++ wsX60 ++ wsX50 ++ wsX30)
def wsX6_told_r1 : List Cond := [Cond.fieldLink RX6 12 "ColourEcho" "gorge" "LColourEcho$Gorge;", Cond.fieldLink RX6 75 "ColourEcho$Gorge" "off" "[I", Cond.fieldLink RX6 72 "ColourEcho$Gorge" "keeps" "[I", Cond.methodLink RX6 68 yX6_isWithin, Cond.static yX6_isWithin, Cond.initialized RX6, Cond.code yX6_isWithin cX6_isWithin 3 (some .boolean), Cond.methodLink RX6 258 yX6_toldOfToday, Cond.instanceMethod yX6_toldOfToday, Cond.selects RX6 yX6_toldOfToday yX6_toldOfToday, Cond.code yX6_toldOfToday cX6_toldOfToday 2 (some .int), Cond.fieldLink RX6 22 "ColourEcho" "pad" "LColourEcho$Pad;", Cond.fieldLink RX6 96 "ColourEcho$Pad" "count" "I", Cond.fieldLink RX6 127 "ColourEcho$Gorge" "day" "I", Cond.fieldLink RX6 92 "ColourEcho$Gorge" "most" "I", Cond.fieldLink RX6 194 "ColourEcho$Gorge" "sights" "I", Cond.fieldLink RX6 274 "ColourEcho$Gorge" "fog" "Z", Cond.fieldLink RX6 278 "ColourEcho$Gorge" "snow" "Z", Cond.fieldLink RX6 281 "ColourEcho$Gorge" "worn" "I", Cond.methodLink RX6 78 yX6_isDress, Cond.static yX6_isDress, Cond.code yX6_isDress cX6_isDress 1 (some .boolean), Cond.methodLink RX6 136 yX6_isColour, Cond.static yX6_isColour]
def wsX6_told_r2 : List Cond := [Cond.code yX6_isColour cX6_isColour 1 (some .boolean), Cond.methodLink RX6 82 yX3_worth, Cond.instanceMethod yX3_worth, Cond.selects RX3 yX3_worth yX3_worth, Cond.initialized RX3, Cond.code yX3_worth cX3_worth 3 (some .int), Cond.fieldLink RX3 18 "ColourEcho$Gorge" "dresses" "[I"]
def wsX6_told : List Cond := .code yX6_told cX6_told 4 (some .int) :: ((wsX6_told_r1 ++ wsX6_told_r2) ++ wsX60 ++ wsX30 ++ wsX50)
def wsX7_init : List Cond := .code yX7_init cX7_init 2 none :: ([.methodLink RX7 1 objectInit, .instanceMethod objectInit, .code objectInit ⟨#[0xb1]⟩ 1 none, .arrayClass .int, .fieldLink RX7 7 "ColourEchoModel" "off" "[I", .fieldLink RX7 13 "ColourEchoModel" "keeps" "[I", .fieldLink RX7 16 "ColourEchoModel" "dress" "[I", .fieldLink RX7 19 "ColourEchoModel" "limit" "I", .fieldLink RX7 23 "ColourEchoModel" "shownToday" "[I", .fieldLink RX7 26 "ColourEchoModel" "past" "[I", .fieldLink RX7 29 "ColourEchoModel" "sight" "[I", .fieldLink RX7 32 "ColourEchoModel" "pad" "[I", .fieldLink RX7 35 "ColourEchoModel" "shown" "[I", .fieldLink RX7 38 "ColourEchoModel" "then" "[I", .fieldLink RX7 41 "ColourEchoModel" "keep" "[I", .fieldLink RX7 44 "ColourEchoModel" "echo" "[I", .fieldLink RX7 47 "ColourEchoModel" "since" "[I", .fieldLink RX7 50 "ColourEchoModel" "counts" "[I", .fieldLink RX7 53 "ColourEchoModel" "value" "[I", .fieldLink RX7 56 "ColourEchoModel" "image" "[I", .arrayClass .boolean, .fieldLink RX7 59 "ColourEchoModel" "isKept" "[Z"] ++ wsX70)
def wsX7_in : List Cond := .code yX7_in cX7_in 3 (some .boolean) :: ([])
def wsX7_has : List Cond := .code yX7_has cX7_has 2 (some .boolean) :: ([])
def wsX7_bits : List Cond := .code yX7_bits cX7_bits 3 (some .int) :: ([])
def wsX7_wall : List Cond := .code yX7_wall cX7_wall 5 (some .int) :: ([.fieldLink RX7 13 "ColourEchoModel" "keeps" "[I", .fieldLink RX7 7 "ColourEchoModel" "off" "[I", .methodLink RX7 63 yX7_in, .static yX7_in, .initialized RX7, .code yX7_in cX7_in 3 (some .boolean)] ++ wsX70)
def wsX7_dress : List Cond := .code yX7_dress cX7_dress 6 (some .int) :: ([.fieldLink RX7 16 "ColourEchoModel" "dress" "[I", .methodLink RX7 63 yX7_in, .static yX7_in, .initialized RX7, .code yX7_in cX7_in 3 (some .boolean)] ++ wsX70)
def wsX7_limit : List Cond := .code yX7_limit cX7_limit 3 (some .int) :: ([.fieldLink RX7 19 "ColourEchoModel" "limit" "I", .methodLink RX7 63 yX7_in, .static yX7_in, .initialized RX7, .code yX7_in cX7_in 3 (some .boolean)] ++ wsX70)
def wsX7_say : List Cond := .code yX7_say cX7_say 2 (some .int) :: ([.fieldLink RX7 67 "ColourEchoModel" "signs" "I", .fieldLink RX7 32 "ColourEchoModel" "pad" "[I", .methodLink RX7 63 yX7_in, .static yX7_in, .initialized RX7, .code yX7_in cX7_in 3 (some .boolean)] ++ wsX70)
def wsX7_wipe : List Cond := .code yX7_wipe cX7_wipe 2 (some .int) :: ([.fieldLink RX7 67 "ColourEchoModel" "signs" "I"] ++ wsX70)
def wsX7_colourOf : List Cond := .code yX7_colourOf cX7_colourOf 1 (some .int) :: ([])
def wsX7_faultOf : List Cond := .code yX7_faultOf cX7_faultOf 6 (some .int) :: ([.fieldLink RX7 67 "ColourEchoModel" "signs" "I", .fieldLink RX7 32 "ColourEchoModel" "pad" "[I", .methodLink RX7 70 yX7_colourOf, .static yX7_colourOf, .initialized RX7, .code yX7_colourOf cX7_colourOf 1 (some .int), .methodLink RX7 63 yX7_in, .static yX7_in, .code yX7_in cX7_in 3 (some .boolean)] ++ wsX70)
def wsX7_fault : List Cond := .code yX7_fault cX7_fault 1 (some .int) :: ([.methodLink RX7 74 yX7_faultOf, .instanceMethod yX7_faultOf, .selects RX7 yX7_faultOf yX7_faultOf, .initialized RX7, .code yX7_faultOf cX7_faultOf 6 (some .int), .fieldLink RX7 67 "ColourEchoModel" "signs" "I", .fieldLink RX7 32 "ColourEchoModel" "pad" "[I", .methodLink RX7 70 yX7_colourOf, .static yX7_colourOf, .code yX7_colourOf cX7_colourOf 1 (some .int), .methodLink RX7 63 yX7_in, .static yX7_in, .code yX7_in cX7_in 3 (some .boolean)] ++ wsX70)
def wsX7_asNow : List Cond := .code yX7_asNow cX7_asNow 2 none :: ([.fieldLink RX7 35 "ColourEchoModel" "shown" "[I", .fieldLink RX7 23 "ColourEchoModel" "shownToday" "[I", .fieldLink RX7 38 "ColourEchoModel" "then" "[I", .fieldLink RX7 26 "ColourEchoModel" "past" "[I", .fieldLink RX7 41 "ColourEchoModel" "keep" "[I", .fieldLink RX7 13 "ColourEchoModel" "keeps" "[I", .fieldLink RX7 78 "ColourEchoModel" "fog" "I", .fieldLink RX7 81 "ColourEchoModel" "fogNow" "I", .fieldLink RX7 84 "ColourEchoModel" "snow" "I", .fieldLink RX7 87 "ColourEchoModel" "snowNow" "I", .fieldLink RX7 90 "ColourEchoModel" "out" "I", .fieldLink RX7 93 "ColourEchoModel" "outNow" "I", .fieldLink RX7 96 "ColourEchoModel" "day" "I", .fieldLink RX7 99 "ColourEchoModel" "dayNow" "I"] ++ wsX70)
def wsX7_empty : List Cond := .code yX7_empty cX7_empty 2 none :: ([.fieldLink RX7 35 "ColourEchoModel" "shown" "[I", .fieldLink RX7 38 "ColourEchoModel" "then" "[I", .fieldLink RX7 81 "ColourEchoModel" "fogNow" "I", .fieldLink RX7 87 "ColourEchoModel" "snowNow" "I", .methodLink RX7 102 yX7_asNow, .instanceMethod yX7_asNow, .selects RX7 yX7_asNow yX7_asNow, .initialized RX7, .code yX7_asNow cX7_asNow 2 none, .fieldLink RX7 23 "ColourEchoModel" "shownToday" "[I", .fieldLink RX7 26 "ColourEchoModel" "past" "[I", .fieldLink RX7 41 "ColourEchoModel" "keep" "[I", .fieldLink RX7 13 "ColourEchoModel" "keeps" "[I", .fieldLink RX7 78 "ColourEchoModel" "fog" "I", .fieldLink RX7 84 "ColourEchoModel" "snow" "I", .fieldLink RX7 90 "ColourEchoModel" "out" "I", .fieldLink RX7 93 "ColourEchoModel" "outNow" "I", .fieldLink RX7 96 "ColourEchoModel" "day" "I", .fieldLink RX7 99 "ColourEchoModel" "dayNow" "I"] ++ wsX70)
def wsX7_see : List Cond := .code yX7_see cX7_see 4 (some .int) :: ([.fieldLink RX7 35 "ColourEchoModel" "shown" "[I", .fieldLink RX7 81 "ColourEchoModel" "fogNow" "I", .fieldLink RX7 87 "ColourEchoModel" "snowNow" "I", .fieldLink RX7 41 "ColourEchoModel" "keep" "[I", .fieldLink RX7 38 "ColourEchoModel" "then" "[I", .fieldLink RX7 7 "ColourEchoModel" "off" "[I"] ++ wsX70)
def wsX7_seeAll : List Cond := .code yX7_seeAll cX7_seeAll 1 (some .int) :: ([.methodLink RX7 105 yX7_see, .instanceMethod yX7_see, .selects RX7 yX7_see yX7_see, .initialized RX7, .code yX7_see cX7_see 4 (some .int), .fieldLink RX7 35 "ColourEchoModel" "shown" "[I", .fieldLink RX7 81 "ColourEchoModel" "fogNow" "I", .fieldLink RX7 87 "ColourEchoModel" "snowNow" "I", .fieldLink RX7 41 "ColourEchoModel" "keep" "[I", .fieldLink RX7 38 "ColourEchoModel" "then" "[I", .fieldLink RX7 7 "ColourEchoModel" "off" "[I"] ++ wsX70)
def wsX7_isOver : List Cond := .code yX7_isOver cX7_isOver 1 (some .boolean) :: ([.fieldLink RX7 19 "ColourEchoModel" "limit" "I", .methodLink RX7 105 yX7_see, .instanceMethod yX7_see, .selects RX7 yX7_see yX7_see, .initialized RX7, .code yX7_see cX7_see 4 (some .int), .fieldLink RX7 35 "ColourEchoModel" "shown" "[I", .fieldLink RX7 81 "ColourEchoModel" "fogNow" "I", .fieldLink RX7 87 "ColourEchoModel" "snowNow" "I", .fieldLink RX7 41 "ColourEchoModel" "keep" "[I", .fieldLink RX7 38 "ColourEchoModel" "then" "[I", .fieldLink RX7 7 "ColourEchoModel" "off" "[I"] ++ wsX70)
def wsX7_pass : List Cond := .code yX7_pass cX7_pass 7 none :: ([.fieldLink RX7 38 "ColourEchoModel" "then" "[I", .fieldLink RX7 87 "ColourEchoModel" "snowNow" "I", .fieldLink RX7 35 "ColourEchoModel" "shown" "[I", .fieldLink RX7 81 "ColourEchoModel" "fogNow" "I", .fieldLink RX7 93 "ColourEchoModel" "outNow" "I", .fieldLink RX7 99 "ColourEchoModel" "dayNow" "I", .methodLink RX7 105 yX7_see, .instanceMethod yX7_see, .selects RX7 yX7_see yX7_see, .initialized RX7, .code yX7_see cX7_see 4 (some .int), .fieldLink RX7 41 "ColourEchoModel" "keep" "[I", .fieldLink RX7 7 "ColourEchoModel" "off" "[I"] ++ wsX70)
def wsX7_waits : List Cond := .code yX7_waits cX7_waits 3 none :: ([.methodLink RX7 108 yX7_pass, .instanceMethod yX7_pass, .selects RX7 yX7_pass yX7_pass, .initialized RX7, .code yX7_pass cX7_pass 7 none, .fieldLink RX7 38 "ColourEchoModel" "then" "[I", .fieldLink RX7 87 "ColourEchoModel" "snowNow" "I", .fieldLink RX7 35 "ColourEchoModel" "shown" "[I", .fieldLink RX7 81 "ColourEchoModel" "fogNow" "I", .fieldLink RX7 93 "ColourEchoModel" "outNow" "I", .fieldLink RX7 99 "ColourEchoModel" "dayNow" "I", .methodLink RX7 105 yX7_see, .instanceMethod yX7_see, .selects RX7 yX7_see yX7_see, .code yX7_see cX7_see 4 (some .int), .fieldLink RX7 41 "ColourEchoModel" "keep" "[I", .fieldLink RX7 7 "ColourEchoModel" "off" "[I"] ++ wsX70)
def wsX7_wear : List Cond := .code yX7_wear cX7_wear 3 none :: ([.fieldLink RX7 35 "ColourEchoModel" "shown" "[I", .fieldLink RX7 16 "ColourEchoModel" "dress" "[I"] ++ wsX70)
def wsX7_whyNotWear : List Cond := .code yX7_whyNotWear cX7_whyNotWear 4 (some .int) :: ([.fieldLink RX7 35 "ColourEchoModel" "shown" "[I", .fieldLink RX7 16 "ColourEchoModel" "dress" "[I", .fieldLink RX7 93 "ColourEchoModel" "outNow" "I", .methodLink RX7 111 yX7_has, .static yX7_has, .initialized RX7, .code yX7_has cX7_has 2 (some .boolean)] ++ wsX70)
def wsX7_note : List Cond := .code yX7_note cX7_note 1 none :: ([.fieldLink RX7 115 "ColourEchoModel" "brokenAt" "I", .fieldLink RX7 99 "ColourEchoModel" "dayNow" "I", .fieldLink RX7 96 "ColourEchoModel" "day" "I", .methodLink RX7 118 yX7_isOver, .instanceMethod yX7_isOver, .selects RX7 yX7_isOver yX7_isOver, .initialized RX7, .code yX7_isOver cX7_isOver 1 (some .boolean), .fieldLink RX7 19 "ColourEchoModel" "limit" "I", .methodLink RX7 105 yX7_see, .instanceMethod yX7_see, .selects RX7 yX7_see yX7_see, .code yX7_see cX7_see 4 (some .int), .fieldLink RX7 35 "ColourEchoModel" "shown" "[I", .fieldLink RX7 81 "ColourEchoModel" "fogNow" "I", .fieldLink RX7 87 "ColourEchoModel" "snowNow" "I", .fieldLink RX7 41 "ColourEchoModel" "keep" "[I", .fieldLink RX7 38 "ColourEchoModel" "then" "[I", .fieldLink RX7 7 "ColourEchoModel" "off" "[I"] ++ wsX70)
def wsX7_goDays_r1 : List Cond := [Cond.fieldLink RX7 122 "ColourEchoModel" "acts" "I", Cond.fieldLink RX7 115 "ColourEchoModel" "brokenAt" "I", Cond.fieldLink RX7 67 "ColourEchoModel" "signs" "I", Cond.fieldLink RX7 32 "ColourEchoModel" "pad" "[I", Cond.fieldLink RX7 125 "ColourEchoModel" "reason" "I", Cond.fieldLink RX7 35 "ColourEchoModel" "shown" "[I", Cond.fieldLink RX7 41 "ColourEchoModel" "keep" "[I", Cond.fieldLink RX7 81 "ColourEchoModel" "fogNow" "I", Cond.fieldLink RX7 87 "ColourEchoModel" "snowNow" "I", Cond.fieldLink RX7 99 "ColourEchoModel" "dayNow" "I", Cond.fieldLink RX7 93 "ColourEchoModel" "outNow" "I", Cond.methodLink RX7 102 yX7_asNow, Cond.instanceMethod yX7_asNow, Cond.selects RX7 yX7_asNow yX7_asNow, Cond.initialized RX7, Cond.code yX7_asNow cX7_asNow 2 none, Cond.fieldLink RX7 23 "ColourEchoModel" "shownToday" "[I", Cond.fieldLink RX7 38 "ColourEchoModel" "then" "[I", Cond.fieldLink RX7 26 "ColourEchoModel" "past" "[I", Cond.fieldLink RX7 13 "ColourEchoModel" "keeps" "[I", Cond.fieldLink RX7 78 "ColourEchoModel" "fog" "I", Cond.fieldLink RX7 84 "ColourEchoModel" "snow" "I", Cond.fieldLink RX7 90 "ColourEchoModel" "out" "I", Cond.fieldLink RX7 96 "ColourEchoModel" "day" "I"]
def wsX7_goDays_r2 : List Cond := [Cond.methodLink RX7 70 yX7_colourOf, Cond.static yX7_colourOf, Cond.code yX7_colourOf cX7_colourOf 1 (some .int), Cond.methodLink RX7 128 yX7_note, Cond.instanceMethod yX7_note, Cond.selects RX7 yX7_note yX7_note, Cond.code yX7_note cX7_note 1 none, Cond.methodLink RX7 118 yX7_isOver, Cond.instanceMethod yX7_isOver, Cond.selects RX7 yX7_isOver yX7_isOver, Cond.code yX7_isOver cX7_isOver 1 (some .boolean), Cond.fieldLink RX7 19 "ColourEchoModel" "limit" "I", Cond.methodLink RX7 105 yX7_see, Cond.instanceMethod yX7_see, Cond.selects RX7 yX7_see yX7_see, Cond.code yX7_see cX7_see 4 (some .int), Cond.fieldLink RX7 7 "ColourEchoModel" "off" "[I", Cond.methodLink RX7 108 yX7_pass, Cond.instanceMethod yX7_pass, Cond.selects RX7 yX7_pass yX7_pass, Cond.code yX7_pass cX7_pass 7 none, Cond.methodLink RX7 131 yX7_whyNotWear, Cond.instanceMethod yX7_whyNotWear, Cond.selects RX7 yX7_whyNotWear yX7_whyNotWear]
def wsX7_goDays_r3 : List Cond := [Cond.code yX7_whyNotWear cX7_whyNotWear 4 (some .int), Cond.fieldLink RX7 16 "ColourEchoModel" "dress" "[I", Cond.methodLink RX7 111 yX7_has, Cond.static yX7_has, Cond.code yX7_has cX7_has 2 (some .boolean), Cond.methodLink RX7 134 yX7_wear, Cond.instanceMethod yX7_wear, Cond.selects RX7 yX7_wear yX7_wear, Cond.code yX7_wear cX7_wear 3 none]
def wsX7_goDays : List Cond := .code yX7_goDays cX7_goDays 5 (some .int) :: ((wsX7_goDays_r1 ++ (wsX7_goDays_r2 ++ wsX7_goDays_r3)) ++ wsX70)
def wsX7_judge_r1 : List Cond := [Cond.fieldLink RX7 125 "ColourEchoModel" "reason" "I", Cond.methodLink RX7 63 yX7_in, Cond.static yX7_in, Cond.initialized RX7, Cond.code yX7_in cX7_in 3 (some .boolean), Cond.methodLink RX7 74 yX7_faultOf, Cond.instanceMethod yX7_faultOf, Cond.selects RX7 yX7_faultOf yX7_faultOf, Cond.code yX7_faultOf cX7_faultOf 6 (some .int), Cond.fieldLink RX7 67 "ColourEchoModel" "signs" "I", Cond.fieldLink RX7 32 "ColourEchoModel" "pad" "[I", Cond.methodLink RX7 70 yX7_colourOf, Cond.static yX7_colourOf, Cond.code yX7_colourOf cX7_colourOf 1 (some .int), Cond.methodLink RX7 138 yX7_goDays, Cond.instanceMethod yX7_goDays, Cond.selects RX7 yX7_goDays yX7_goDays, Cond.code yX7_goDays cX7_goDays 5 (some .int), Cond.fieldLink RX7 122 "ColourEchoModel" "acts" "I", Cond.fieldLink RX7 115 "ColourEchoModel" "brokenAt" "I", Cond.fieldLink RX7 35 "ColourEchoModel" "shown" "[I", Cond.fieldLink RX7 41 "ColourEchoModel" "keep" "[I", Cond.fieldLink RX7 81 "ColourEchoModel" "fogNow" "I", Cond.fieldLink RX7 87 "ColourEchoModel" "snowNow" "I"]
def wsX7_judge_r2 : List Cond := [Cond.fieldLink RX7 99 "ColourEchoModel" "dayNow" "I", Cond.fieldLink RX7 93 "ColourEchoModel" "outNow" "I", Cond.methodLink RX7 102 yX7_asNow, Cond.instanceMethod yX7_asNow, Cond.selects RX7 yX7_asNow yX7_asNow, Cond.code yX7_asNow cX7_asNow 2 none, Cond.fieldLink RX7 23 "ColourEchoModel" "shownToday" "[I", Cond.fieldLink RX7 38 "ColourEchoModel" "then" "[I", Cond.fieldLink RX7 26 "ColourEchoModel" "past" "[I", Cond.fieldLink RX7 13 "ColourEchoModel" "keeps" "[I", Cond.fieldLink RX7 78 "ColourEchoModel" "fog" "I", Cond.fieldLink RX7 84 "ColourEchoModel" "snow" "I", Cond.fieldLink RX7 90 "ColourEchoModel" "out" "I", Cond.fieldLink RX7 96 "ColourEchoModel" "day" "I", Cond.methodLink RX7 128 yX7_note, Cond.instanceMethod yX7_note, Cond.selects RX7 yX7_note yX7_note, Cond.code yX7_note cX7_note 1 none, Cond.methodLink RX7 118 yX7_isOver, Cond.instanceMethod yX7_isOver, Cond.selects RX7 yX7_isOver yX7_isOver, Cond.code yX7_isOver cX7_isOver 1 (some .boolean), Cond.fieldLink RX7 19 "ColourEchoModel" "limit" "I", Cond.methodLink RX7 105 yX7_see]
def wsX7_judge_r3 : List Cond := [Cond.instanceMethod yX7_see, Cond.selects RX7 yX7_see yX7_see, Cond.code yX7_see cX7_see 4 (some .int), Cond.fieldLink RX7 7 "ColourEchoModel" "off" "[I", Cond.methodLink RX7 108 yX7_pass, Cond.instanceMethod yX7_pass, Cond.selects RX7 yX7_pass yX7_pass, Cond.code yX7_pass cX7_pass 7 none, Cond.methodLink RX7 131 yX7_whyNotWear, Cond.instanceMethod yX7_whyNotWear, Cond.selects RX7 yX7_whyNotWear yX7_whyNotWear, Cond.code yX7_whyNotWear cX7_whyNotWear 4 (some .int), Cond.fieldLink RX7 16 "ColourEchoModel" "dress" "[I", Cond.methodLink RX7 111 yX7_has, Cond.static yX7_has, Cond.code yX7_has cX7_has 2 (some .boolean), Cond.methodLink RX7 134 yX7_wear, Cond.instanceMethod yX7_wear, Cond.selects RX7 yX7_wear yX7_wear, Cond.code yX7_wear cX7_wear 3 none]
def wsX7_judge : List Cond := .code yX7_judge cX7_judge 3 (some .int) :: ((wsX7_judge_r1 ++ (wsX7_judge_r2 ++ wsX7_judge_r3)) ++ wsX70)
def wsX7_barOfDays_r1 : List Cond := [Cond.methodLink RX7 74 yX7_faultOf, Cond.instanceMethod yX7_faultOf, Cond.selects RX7 yX7_faultOf yX7_faultOf, Cond.initialized RX7, Cond.code yX7_faultOf cX7_faultOf 6 (some .int), Cond.fieldLink RX7 67 "ColourEchoModel" "signs" "I", Cond.fieldLink RX7 32 "ColourEchoModel" "pad" "[I", Cond.methodLink RX7 70 yX7_colourOf, Cond.static yX7_colourOf, Cond.code yX7_colourOf cX7_colourOf 1 (some .int), Cond.methodLink RX7 63 yX7_in, Cond.static yX7_in, Cond.code yX7_in cX7_in 3 (some .boolean), Cond.methodLink RX7 138 yX7_goDays, Cond.instanceMethod yX7_goDays, Cond.selects RX7 yX7_goDays yX7_goDays, Cond.code yX7_goDays cX7_goDays 5 (some .int), Cond.fieldLink RX7 122 "ColourEchoModel" "acts" "I", Cond.fieldLink RX7 115 "ColourEchoModel" "brokenAt" "I", Cond.fieldLink RX7 125 "ColourEchoModel" "reason" "I", Cond.fieldLink RX7 35 "ColourEchoModel" "shown" "[I", Cond.fieldLink RX7 41 "ColourEchoModel" "keep" "[I", Cond.fieldLink RX7 81 "ColourEchoModel" "fogNow" "I", Cond.fieldLink RX7 87 "ColourEchoModel" "snowNow" "I"]
def wsX7_barOfDays_r2 : List Cond := [Cond.fieldLink RX7 99 "ColourEchoModel" "dayNow" "I", Cond.fieldLink RX7 93 "ColourEchoModel" "outNow" "I", Cond.methodLink RX7 102 yX7_asNow, Cond.instanceMethod yX7_asNow, Cond.selects RX7 yX7_asNow yX7_asNow, Cond.code yX7_asNow cX7_asNow 2 none, Cond.fieldLink RX7 23 "ColourEchoModel" "shownToday" "[I", Cond.fieldLink RX7 38 "ColourEchoModel" "then" "[I", Cond.fieldLink RX7 26 "ColourEchoModel" "past" "[I", Cond.fieldLink RX7 13 "ColourEchoModel" "keeps" "[I", Cond.fieldLink RX7 78 "ColourEchoModel" "fog" "I", Cond.fieldLink RX7 84 "ColourEchoModel" "snow" "I", Cond.fieldLink RX7 90 "ColourEchoModel" "out" "I", Cond.fieldLink RX7 96 "ColourEchoModel" "day" "I", Cond.methodLink RX7 128 yX7_note, Cond.instanceMethod yX7_note, Cond.selects RX7 yX7_note yX7_note, Cond.code yX7_note cX7_note 1 none, Cond.methodLink RX7 118 yX7_isOver, Cond.instanceMethod yX7_isOver, Cond.selects RX7 yX7_isOver yX7_isOver, Cond.code yX7_isOver cX7_isOver 1 (some .boolean), Cond.fieldLink RX7 19 "ColourEchoModel" "limit" "I", Cond.methodLink RX7 105 yX7_see]
def wsX7_barOfDays_r3 : List Cond := [Cond.instanceMethod yX7_see, Cond.selects RX7 yX7_see yX7_see, Cond.code yX7_see cX7_see 4 (some .int), Cond.fieldLink RX7 7 "ColourEchoModel" "off" "[I", Cond.methodLink RX7 108 yX7_pass, Cond.instanceMethod yX7_pass, Cond.selects RX7 yX7_pass yX7_pass, Cond.code yX7_pass cX7_pass 7 none, Cond.methodLink RX7 131 yX7_whyNotWear, Cond.instanceMethod yX7_whyNotWear, Cond.selects RX7 yX7_whyNotWear yX7_whyNotWear, Cond.code yX7_whyNotWear cX7_whyNotWear 4 (some .int), Cond.fieldLink RX7 16 "ColourEchoModel" "dress" "[I", Cond.methodLink RX7 111 yX7_has, Cond.static yX7_has, Cond.code yX7_has cX7_has 2 (some .boolean), Cond.methodLink RX7 134 yX7_wear, Cond.instanceMethod yX7_wear, Cond.selects RX7 yX7_wear yX7_wear, Cond.code yX7_wear cX7_wear 3 none]
def wsX7_barOfDays : List Cond := .code yX7_barOfDays cX7_barOfDays 1 (some .int) :: ((wsX7_barOfDays_r1 ++ (wsX7_barOfDays_r2 ++ wsX7_barOfDays_r3)) ++ wsX70)
def wsX7_done_r1 : List Cond := [Cond.fieldLink RX7 23 "ColourEchoModel" "shownToday" "[I", Cond.fieldLink RX7 35 "ColourEchoModel" "shown" "[I", Cond.fieldLink RX7 26 "ColourEchoModel" "past" "[I", Cond.fieldLink RX7 38 "ColourEchoModel" "then" "[I", Cond.fieldLink RX7 13 "ColourEchoModel" "keeps" "[I", Cond.fieldLink RX7 41 "ColourEchoModel" "keep" "[I", Cond.fieldLink RX7 81 "ColourEchoModel" "fogNow" "I", Cond.fieldLink RX7 78 "ColourEchoModel" "fog" "I", Cond.fieldLink RX7 87 "ColourEchoModel" "snowNow" "I", Cond.fieldLink RX7 84 "ColourEchoModel" "snow" "I", Cond.fieldLink RX7 93 "ColourEchoModel" "outNow" "I", Cond.fieldLink RX7 90 "ColourEchoModel" "out" "I", Cond.fieldLink RX7 99 "ColourEchoModel" "dayNow" "I", Cond.fieldLink RX7 96 "ColourEchoModel" "day" "I", Cond.fieldLink RX7 67 "ColourEchoModel" "signs" "I", Cond.fieldLink RX7 122 "ColourEchoModel" "acts" "I", Cond.methodLink RX7 141 yX7_barOfDays, Cond.instanceMethod yX7_barOfDays, Cond.selects RX7 yX7_barOfDays yX7_barOfDays, Cond.initialized RX7, Cond.code yX7_barOfDays cX7_barOfDays 1 (some .int), Cond.methodLink RX7 74 yX7_faultOf, Cond.instanceMethod yX7_faultOf, Cond.selects RX7 yX7_faultOf yX7_faultOf]
def wsX7_done_r2 : List Cond := [Cond.code yX7_faultOf cX7_faultOf 6 (some .int), Cond.fieldLink RX7 32 "ColourEchoModel" "pad" "[I", Cond.methodLink RX7 70 yX7_colourOf, Cond.static yX7_colourOf, Cond.code yX7_colourOf cX7_colourOf 1 (some .int), Cond.methodLink RX7 63 yX7_in, Cond.static yX7_in, Cond.code yX7_in cX7_in 3 (some .boolean), Cond.methodLink RX7 138 yX7_goDays, Cond.instanceMethod yX7_goDays, Cond.selects RX7 yX7_goDays yX7_goDays, Cond.code yX7_goDays cX7_goDays 5 (some .int), Cond.fieldLink RX7 115 "ColourEchoModel" "brokenAt" "I", Cond.fieldLink RX7 125 "ColourEchoModel" "reason" "I", Cond.methodLink RX7 102 yX7_asNow, Cond.instanceMethod yX7_asNow, Cond.selects RX7 yX7_asNow yX7_asNow, Cond.code yX7_asNow cX7_asNow 2 none, Cond.methodLink RX7 128 yX7_note, Cond.instanceMethod yX7_note, Cond.selects RX7 yX7_note yX7_note, Cond.code yX7_note cX7_note 1 none, Cond.methodLink RX7 118 yX7_isOver, Cond.instanceMethod yX7_isOver]
def wsX7_done_r3 : List Cond := [Cond.selects RX7 yX7_isOver yX7_isOver, Cond.code yX7_isOver cX7_isOver 1 (some .boolean), Cond.fieldLink RX7 19 "ColourEchoModel" "limit" "I", Cond.methodLink RX7 105 yX7_see, Cond.instanceMethod yX7_see, Cond.selects RX7 yX7_see yX7_see, Cond.code yX7_see cX7_see 4 (some .int), Cond.fieldLink RX7 7 "ColourEchoModel" "off" "[I", Cond.methodLink RX7 108 yX7_pass, Cond.instanceMethod yX7_pass, Cond.selects RX7 yX7_pass yX7_pass, Cond.code yX7_pass cX7_pass 7 none, Cond.methodLink RX7 131 yX7_whyNotWear, Cond.instanceMethod yX7_whyNotWear, Cond.selects RX7 yX7_whyNotWear yX7_whyNotWear, Cond.code yX7_whyNotWear cX7_whyNotWear 4 (some .int), Cond.fieldLink RX7 16 "ColourEchoModel" "dress" "[I", Cond.methodLink RX7 111 yX7_has, Cond.static yX7_has, Cond.code yX7_has cX7_has 2 (some .boolean), Cond.methodLink RX7 134 yX7_wear, Cond.instanceMethod yX7_wear, Cond.selects RX7 yX7_wear yX7_wear, Cond.code yX7_wear cX7_wear 3 none]
def wsX7_done : List Cond := .code yX7_done cX7_done 2 (some .int) :: ((wsX7_done_r1 ++ (wsX7_done_r2 ++ wsX7_done_r3)) ++ wsX70)
def wsX7_behind_r1 : List Cond := [Cond.fieldLink RX7 99 "ColourEchoModel" "dayNow" "I", Cond.methodLink RX7 63 yX7_in, Cond.static yX7_in, Cond.initialized RX7, Cond.code yX7_in cX7_in 3 (some .boolean), Cond.methodLink RX7 141 yX7_barOfDays, Cond.instanceMethod yX7_barOfDays, Cond.selects RX7 yX7_barOfDays yX7_barOfDays, Cond.code yX7_barOfDays cX7_barOfDays 1 (some .int), Cond.methodLink RX7 74 yX7_faultOf, Cond.instanceMethod yX7_faultOf, Cond.selects RX7 yX7_faultOf yX7_faultOf, Cond.code yX7_faultOf cX7_faultOf 6 (some .int), Cond.fieldLink RX7 67 "ColourEchoModel" "signs" "I", Cond.fieldLink RX7 32 "ColourEchoModel" "pad" "[I", Cond.methodLink RX7 70 yX7_colourOf, Cond.static yX7_colourOf, Cond.code yX7_colourOf cX7_colourOf 1 (some .int), Cond.methodLink RX7 138 yX7_goDays, Cond.instanceMethod yX7_goDays, Cond.selects RX7 yX7_goDays yX7_goDays, Cond.code yX7_goDays cX7_goDays 5 (some .int), Cond.fieldLink RX7 122 "ColourEchoModel" "acts" "I", Cond.fieldLink RX7 115 "ColourEchoModel" "brokenAt" "I"]
def wsX7_behind_r2 : List Cond := [Cond.fieldLink RX7 125 "ColourEchoModel" "reason" "I", Cond.fieldLink RX7 35 "ColourEchoModel" "shown" "[I", Cond.fieldLink RX7 41 "ColourEchoModel" "keep" "[I", Cond.fieldLink RX7 81 "ColourEchoModel" "fogNow" "I", Cond.fieldLink RX7 87 "ColourEchoModel" "snowNow" "I", Cond.fieldLink RX7 93 "ColourEchoModel" "outNow" "I", Cond.methodLink RX7 102 yX7_asNow, Cond.instanceMethod yX7_asNow, Cond.selects RX7 yX7_asNow yX7_asNow, Cond.code yX7_asNow cX7_asNow 2 none, Cond.fieldLink RX7 23 "ColourEchoModel" "shownToday" "[I", Cond.fieldLink RX7 38 "ColourEchoModel" "then" "[I", Cond.fieldLink RX7 26 "ColourEchoModel" "past" "[I", Cond.fieldLink RX7 13 "ColourEchoModel" "keeps" "[I", Cond.fieldLink RX7 78 "ColourEchoModel" "fog" "I", Cond.fieldLink RX7 84 "ColourEchoModel" "snow" "I", Cond.fieldLink RX7 90 "ColourEchoModel" "out" "I", Cond.fieldLink RX7 96 "ColourEchoModel" "day" "I", Cond.methodLink RX7 128 yX7_note, Cond.instanceMethod yX7_note, Cond.selects RX7 yX7_note yX7_note, Cond.code yX7_note cX7_note 1 none, Cond.methodLink RX7 118 yX7_isOver, Cond.instanceMethod yX7_isOver]
def wsX7_behind_r3 : List Cond := [Cond.selects RX7 yX7_isOver yX7_isOver, Cond.code yX7_isOver cX7_isOver 1 (some .boolean), Cond.fieldLink RX7 19 "ColourEchoModel" "limit" "I", Cond.methodLink RX7 105 yX7_see, Cond.instanceMethod yX7_see, Cond.selects RX7 yX7_see yX7_see, Cond.code yX7_see cX7_see 4 (some .int), Cond.fieldLink RX7 7 "ColourEchoModel" "off" "[I", Cond.methodLink RX7 108 yX7_pass, Cond.instanceMethod yX7_pass, Cond.selects RX7 yX7_pass yX7_pass, Cond.code yX7_pass cX7_pass 7 none, Cond.methodLink RX7 131 yX7_whyNotWear, Cond.instanceMethod yX7_whyNotWear, Cond.selects RX7 yX7_whyNotWear yX7_whyNotWear, Cond.code yX7_whyNotWear cX7_whyNotWear 4 (some .int), Cond.fieldLink RX7 16 "ColourEchoModel" "dress" "[I", Cond.methodLink RX7 111 yX7_has, Cond.static yX7_has, Cond.code yX7_has cX7_has 2 (some .boolean), Cond.methodLink RX7 134 yX7_wear, Cond.instanceMethod yX7_wear, Cond.selects RX7 yX7_wear yX7_wear, Cond.code yX7_wear cX7_wear 3 none]
def wsX7_behind : List Cond := .code yX7_behind cX7_behind 2 (some .int) :: ((wsX7_behind_r1 ++ (wsX7_behind_r2 ++ wsX7_behind_r3)) ++ wsX70)
def wsX7_broken_r1 : List Cond := [Cond.fieldLink RX7 115 "ColourEchoModel" "brokenAt" "I", Cond.methodLink RX7 141 yX7_barOfDays, Cond.instanceMethod yX7_barOfDays, Cond.selects RX7 yX7_barOfDays yX7_barOfDays, Cond.initialized RX7, Cond.code yX7_barOfDays cX7_barOfDays 1 (some .int), Cond.methodLink RX7 74 yX7_faultOf, Cond.instanceMethod yX7_faultOf, Cond.selects RX7 yX7_faultOf yX7_faultOf, Cond.code yX7_faultOf cX7_faultOf 6 (some .int), Cond.fieldLink RX7 67 "ColourEchoModel" "signs" "I", Cond.fieldLink RX7 32 "ColourEchoModel" "pad" "[I", Cond.methodLink RX7 70 yX7_colourOf, Cond.static yX7_colourOf, Cond.code yX7_colourOf cX7_colourOf 1 (some .int), Cond.methodLink RX7 63 yX7_in, Cond.static yX7_in, Cond.code yX7_in cX7_in 3 (some .boolean), Cond.methodLink RX7 138 yX7_goDays, Cond.instanceMethod yX7_goDays, Cond.selects RX7 yX7_goDays yX7_goDays, Cond.code yX7_goDays cX7_goDays 5 (some .int), Cond.fieldLink RX7 122 "ColourEchoModel" "acts" "I", Cond.fieldLink RX7 125 "ColourEchoModel" "reason" "I"]
def wsX7_broken_r2 : List Cond := [Cond.fieldLink RX7 35 "ColourEchoModel" "shown" "[I", Cond.fieldLink RX7 41 "ColourEchoModel" "keep" "[I", Cond.fieldLink RX7 81 "ColourEchoModel" "fogNow" "I", Cond.fieldLink RX7 87 "ColourEchoModel" "snowNow" "I", Cond.fieldLink RX7 99 "ColourEchoModel" "dayNow" "I", Cond.fieldLink RX7 93 "ColourEchoModel" "outNow" "I", Cond.methodLink RX7 102 yX7_asNow, Cond.instanceMethod yX7_asNow, Cond.selects RX7 yX7_asNow yX7_asNow, Cond.code yX7_asNow cX7_asNow 2 none, Cond.fieldLink RX7 23 "ColourEchoModel" "shownToday" "[I", Cond.fieldLink RX7 38 "ColourEchoModel" "then" "[I", Cond.fieldLink RX7 26 "ColourEchoModel" "past" "[I", Cond.fieldLink RX7 13 "ColourEchoModel" "keeps" "[I", Cond.fieldLink RX7 78 "ColourEchoModel" "fog" "I", Cond.fieldLink RX7 84 "ColourEchoModel" "snow" "I", Cond.fieldLink RX7 90 "ColourEchoModel" "out" "I", Cond.fieldLink RX7 96 "ColourEchoModel" "day" "I", Cond.methodLink RX7 128 yX7_note, Cond.instanceMethod yX7_note, Cond.selects RX7 yX7_note yX7_note, Cond.code yX7_note cX7_note 1 none, Cond.methodLink RX7 118 yX7_isOver, Cond.instanceMethod yX7_isOver]
def wsX7_broken_r3 : List Cond := [Cond.selects RX7 yX7_isOver yX7_isOver, Cond.code yX7_isOver cX7_isOver 1 (some .boolean), Cond.fieldLink RX7 19 "ColourEchoModel" "limit" "I", Cond.methodLink RX7 105 yX7_see, Cond.instanceMethod yX7_see, Cond.selects RX7 yX7_see yX7_see, Cond.code yX7_see cX7_see 4 (some .int), Cond.fieldLink RX7 7 "ColourEchoModel" "off" "[I", Cond.methodLink RX7 108 yX7_pass, Cond.instanceMethod yX7_pass, Cond.selects RX7 yX7_pass yX7_pass, Cond.code yX7_pass cX7_pass 7 none, Cond.methodLink RX7 131 yX7_whyNotWear, Cond.instanceMethod yX7_whyNotWear, Cond.selects RX7 yX7_whyNotWear yX7_whyNotWear, Cond.code yX7_whyNotWear cX7_whyNotWear 4 (some .int), Cond.fieldLink RX7 16 "ColourEchoModel" "dress" "[I", Cond.methodLink RX7 111 yX7_has, Cond.static yX7_has, Cond.code yX7_has cX7_has 2 (some .boolean), Cond.methodLink RX7 134 yX7_wear, Cond.instanceMethod yX7_wear, Cond.selects RX7 yX7_wear yX7_wear, Cond.code yX7_wear cX7_wear 3 none]
def wsX7_broken : List Cond := .code yX7_broken cX7_broken 1 (some .int) :: ((wsX7_broken_r1 ++ (wsX7_broken_r2 ++ wsX7_broken_r3)) ++ wsX70)
def wsX7_sees_r1 : List Cond := [Cond.methodLink RX7 63 yX7_in, Cond.static yX7_in, Cond.initialized RX7, Cond.code yX7_in cX7_in 3 (some .boolean), Cond.methodLink RX7 102 yX7_asNow, Cond.instanceMethod yX7_asNow, Cond.selects RX7 yX7_asNow yX7_asNow, Cond.code yX7_asNow cX7_asNow 2 none, Cond.fieldLink RX7 35 "ColourEchoModel" "shown" "[I", Cond.fieldLink RX7 23 "ColourEchoModel" "shownToday" "[I", Cond.fieldLink RX7 38 "ColourEchoModel" "then" "[I", Cond.fieldLink RX7 26 "ColourEchoModel" "past" "[I", Cond.fieldLink RX7 41 "ColourEchoModel" "keep" "[I", Cond.fieldLink RX7 13 "ColourEchoModel" "keeps" "[I", Cond.fieldLink RX7 78 "ColourEchoModel" "fog" "I", Cond.fieldLink RX7 81 "ColourEchoModel" "fogNow" "I", Cond.fieldLink RX7 84 "ColourEchoModel" "snow" "I", Cond.fieldLink RX7 87 "ColourEchoModel" "snowNow" "I", Cond.fieldLink RX7 90 "ColourEchoModel" "out" "I", Cond.fieldLink RX7 93 "ColourEchoModel" "outNow" "I", Cond.fieldLink RX7 96 "ColourEchoModel" "day" "I", Cond.fieldLink RX7 99 "ColourEchoModel" "dayNow" "I", Cond.methodLink RX7 105 yX7_see, Cond.instanceMethod yX7_see]
def wsX7_sees_r2 : List Cond := [Cond.selects RX7 yX7_see yX7_see, Cond.code yX7_see cX7_see 4 (some .int), Cond.fieldLink RX7 7 "ColourEchoModel" "off" "[I"]
def wsX7_sees : List Cond := .code yX7_sees cX7_sees 2 (some .int) :: ((wsX7_sees_r1 ++ wsX7_sees_r2) ++ wsX70)
def wsX7_isDay : List Cond := .code yX7_isDay cX7_isDay 1 (some .boolean) :: ([.methodLink RX7 63 yX7_in, .static yX7_in, .initialized RX7, .code yX7_in cX7_in 3 (some .boolean)])
def wsX7_forecast_r1 : List Cond := [Cond.methodLink RX7 63 yX7_in, Cond.static yX7_in, Cond.initialized RX7, Cond.code yX7_in cX7_in 3 (some .boolean), Cond.methodLink RX7 144 yX7_isDay, Cond.static yX7_isDay, Cond.code yX7_isDay cX7_isDay 1 (some .boolean), Cond.methodLink RX7 102 yX7_asNow, Cond.instanceMethod yX7_asNow, Cond.selects RX7 yX7_asNow yX7_asNow, Cond.code yX7_asNow cX7_asNow 2 none, Cond.fieldLink RX7 35 "ColourEchoModel" "shown" "[I", Cond.fieldLink RX7 23 "ColourEchoModel" "shownToday" "[I", Cond.fieldLink RX7 38 "ColourEchoModel" "then" "[I", Cond.fieldLink RX7 26 "ColourEchoModel" "past" "[I", Cond.fieldLink RX7 41 "ColourEchoModel" "keep" "[I", Cond.fieldLink RX7 13 "ColourEchoModel" "keeps" "[I", Cond.fieldLink RX7 78 "ColourEchoModel" "fog" "I", Cond.fieldLink RX7 81 "ColourEchoModel" "fogNow" "I", Cond.fieldLink RX7 84 "ColourEchoModel" "snow" "I", Cond.fieldLink RX7 87 "ColourEchoModel" "snowNow" "I", Cond.fieldLink RX7 90 "ColourEchoModel" "out" "I", Cond.fieldLink RX7 93 "ColourEchoModel" "outNow" "I", Cond.fieldLink RX7 96 "ColourEchoModel" "day" "I"]
def wsX7_forecast_r2 : List Cond := [Cond.fieldLink RX7 99 "ColourEchoModel" "dayNow" "I", Cond.methodLink RX7 148 yX7_waits, Cond.instanceMethod yX7_waits, Cond.selects RX7 yX7_waits yX7_waits, Cond.code yX7_waits cX7_waits 3 none, Cond.methodLink RX7 108 yX7_pass, Cond.instanceMethod yX7_pass, Cond.selects RX7 yX7_pass yX7_pass, Cond.code yX7_pass cX7_pass 7 none, Cond.methodLink RX7 105 yX7_see, Cond.instanceMethod yX7_see, Cond.selects RX7 yX7_see yX7_see, Cond.code yX7_see cX7_see 4 (some .int), Cond.fieldLink RX7 7 "ColourEchoModel" "off" "[I"]
def wsX7_forecast : List Cond := .code yX7_forecast cX7_forecast 3 (some .int) :: ((wsX7_forecast_r1 ++ wsX7_forecast_r2) ++ wsX70)
def wsX7_gone_r1 : List Cond := [Cond.methodLink RX7 102 yX7_asNow, Cond.instanceMethod yX7_asNow, Cond.selects RX7 yX7_asNow yX7_asNow, Cond.initialized RX7, Cond.code yX7_asNow cX7_asNow 2 none, Cond.fieldLink RX7 35 "ColourEchoModel" "shown" "[I", Cond.fieldLink RX7 23 "ColourEchoModel" "shownToday" "[I", Cond.fieldLink RX7 38 "ColourEchoModel" "then" "[I", Cond.fieldLink RX7 26 "ColourEchoModel" "past" "[I", Cond.fieldLink RX7 41 "ColourEchoModel" "keep" "[I", Cond.fieldLink RX7 13 "ColourEchoModel" "keeps" "[I", Cond.fieldLink RX7 78 "ColourEchoModel" "fog" "I", Cond.fieldLink RX7 81 "ColourEchoModel" "fogNow" "I", Cond.fieldLink RX7 84 "ColourEchoModel" "snow" "I", Cond.fieldLink RX7 87 "ColourEchoModel" "snowNow" "I", Cond.fieldLink RX7 90 "ColourEchoModel" "out" "I", Cond.fieldLink RX7 93 "ColourEchoModel" "outNow" "I", Cond.fieldLink RX7 96 "ColourEchoModel" "day" "I", Cond.fieldLink RX7 99 "ColourEchoModel" "dayNow" "I", Cond.methodLink RX7 151 yX7_seeAll, Cond.instanceMethod yX7_seeAll, Cond.selects RX7 yX7_seeAll yX7_seeAll, Cond.code yX7_seeAll cX7_seeAll 1 (some .int), Cond.methodLink RX7 105 yX7_see]
def wsX7_gone_r2 : List Cond := [Cond.instanceMethod yX7_see, Cond.selects RX7 yX7_see yX7_see, Cond.code yX7_see cX7_see 4 (some .int), Cond.fieldLink RX7 7 "ColourEchoModel" "off" "[I", Cond.methodLink RX7 108 yX7_pass, Cond.instanceMethod yX7_pass, Cond.selects RX7 yX7_pass yX7_pass, Cond.code yX7_pass cX7_pass 7 none]
def wsX7_gone : List Cond := .code yX7_gone cX7_gone 3 (some .int) :: ((wsX7_gone_r1 ++ wsX7_gone_r2) ++ wsX70)
def wsX7_hue_r1 : List Cond := [Cond.methodLink RX7 144 yX7_isDay, Cond.static yX7_isDay, Cond.initialized RX7, Cond.code yX7_isDay cX7_isDay 1 (some .boolean), Cond.methodLink RX7 63 yX7_in, Cond.static yX7_in, Cond.code yX7_in cX7_in 3 (some .boolean), Cond.methodLink RX7 102 yX7_asNow, Cond.instanceMethod yX7_asNow, Cond.selects RX7 yX7_asNow yX7_asNow, Cond.code yX7_asNow cX7_asNow 2 none, Cond.fieldLink RX7 35 "ColourEchoModel" "shown" "[I", Cond.fieldLink RX7 23 "ColourEchoModel" "shownToday" "[I", Cond.fieldLink RX7 38 "ColourEchoModel" "then" "[I", Cond.fieldLink RX7 26 "ColourEchoModel" "past" "[I", Cond.fieldLink RX7 41 "ColourEchoModel" "keep" "[I", Cond.fieldLink RX7 13 "ColourEchoModel" "keeps" "[I", Cond.fieldLink RX7 78 "ColourEchoModel" "fog" "I", Cond.fieldLink RX7 81 "ColourEchoModel" "fogNow" "I", Cond.fieldLink RX7 84 "ColourEchoModel" "snow" "I", Cond.fieldLink RX7 87 "ColourEchoModel" "snowNow" "I", Cond.fieldLink RX7 90 "ColourEchoModel" "out" "I", Cond.fieldLink RX7 93 "ColourEchoModel" "outNow" "I", Cond.fieldLink RX7 96 "ColourEchoModel" "day" "I"]
def wsX7_hue_r2 : List Cond := [Cond.fieldLink RX7 99 "ColourEchoModel" "dayNow" "I", Cond.methodLink RX7 148 yX7_waits, Cond.instanceMethod yX7_waits, Cond.selects RX7 yX7_waits yX7_waits, Cond.code yX7_waits cX7_waits 3 none, Cond.methodLink RX7 108 yX7_pass, Cond.instanceMethod yX7_pass, Cond.selects RX7 yX7_pass yX7_pass, Cond.code yX7_pass cX7_pass 7 none, Cond.methodLink RX7 105 yX7_see, Cond.instanceMethod yX7_see, Cond.selects RX7 yX7_see yX7_see, Cond.code yX7_see cX7_see 4 (some .int), Cond.fieldLink RX7 7 "ColourEchoModel" "off" "[I"]
def wsX7_hue : List Cond := .code yX7_hue cX7_hue 4 (some .int) :: ((wsX7_hue_r1 ++ wsX7_hue_r2) ++ wsX70)
def wsX7_make_r1 : List Cond := [Cond.fieldLink RX7 35 "ColourEchoModel" "shown" "[I", Cond.methodLink RX7 63 yX7_in, Cond.static yX7_in, Cond.initialized RX7, Cond.code yX7_in cX7_in 3 (some .boolean), Cond.methodLink RX7 144 yX7_isDay, Cond.static yX7_isDay, Cond.code yX7_isDay cX7_isDay 1 (some .boolean), Cond.methodLink RX7 102 yX7_asNow, Cond.instanceMethod yX7_asNow, Cond.selects RX7 yX7_asNow yX7_asNow, Cond.code yX7_asNow cX7_asNow 2 none, Cond.fieldLink RX7 23 "ColourEchoModel" "shownToday" "[I", Cond.fieldLink RX7 38 "ColourEchoModel" "then" "[I", Cond.fieldLink RX7 26 "ColourEchoModel" "past" "[I", Cond.fieldLink RX7 41 "ColourEchoModel" "keep" "[I", Cond.fieldLink RX7 13 "ColourEchoModel" "keeps" "[I", Cond.fieldLink RX7 78 "ColourEchoModel" "fog" "I", Cond.fieldLink RX7 81 "ColourEchoModel" "fogNow" "I", Cond.fieldLink RX7 84 "ColourEchoModel" "snow" "I", Cond.fieldLink RX7 87 "ColourEchoModel" "snowNow" "I", Cond.fieldLink RX7 90 "ColourEchoModel" "out" "I", Cond.fieldLink RX7 93 "ColourEchoModel" "outNow" "I", Cond.fieldLink RX7 96 "ColourEchoModel" "day" "I"]
def wsX7_make_r2 : List Cond := [Cond.fieldLink RX7 99 "ColourEchoModel" "dayNow" "I", Cond.methodLink RX7 148 yX7_waits, Cond.instanceMethod yX7_waits, Cond.selects RX7 yX7_waits yX7_waits, Cond.code yX7_waits cX7_waits 3 none, Cond.methodLink RX7 108 yX7_pass, Cond.instanceMethod yX7_pass, Cond.selects RX7 yX7_pass yX7_pass, Cond.code yX7_pass cX7_pass 7 none, Cond.methodLink RX7 105 yX7_see, Cond.instanceMethod yX7_see, Cond.selects RX7 yX7_see yX7_see, Cond.code yX7_see cX7_see 4 (some .int), Cond.fieldLink RX7 7 "ColourEchoModel" "off" "[I"]
def wsX7_make : List Cond := .code yX7_make cX7_make 6 (some .int) :: ((wsX7_make_r1 ++ wsX7_make_r2) ++ wsX70)
def wsX7_apartBy : List Cond := .code yX7_apartBy cX7_apartBy 2 (some .int) :: ([])
def wsX7_wish_r1 : List Cond := [Cond.constant RX7 154 (999999999), Cond.constant RX7 155 (1000000), Cond.methodLink RX7 63 yX7_in, Cond.static yX7_in, Cond.initialized RX7, Cond.code yX7_in cX7_in 3 (some .boolean), Cond.methodLink RX7 144 yX7_isDay, Cond.static yX7_isDay, Cond.code yX7_isDay cX7_isDay 1 (some .boolean), Cond.methodLink RX7 102 yX7_asNow, Cond.instanceMethod yX7_asNow, Cond.selects RX7 yX7_asNow yX7_asNow, Cond.code yX7_asNow cX7_asNow 2 none, Cond.fieldLink RX7 35 "ColourEchoModel" "shown" "[I", Cond.fieldLink RX7 23 "ColourEchoModel" "shownToday" "[I", Cond.fieldLink RX7 38 "ColourEchoModel" "then" "[I", Cond.fieldLink RX7 26 "ColourEchoModel" "past" "[I", Cond.fieldLink RX7 41 "ColourEchoModel" "keep" "[I", Cond.fieldLink RX7 13 "ColourEchoModel" "keeps" "[I", Cond.fieldLink RX7 78 "ColourEchoModel" "fog" "I", Cond.fieldLink RX7 81 "ColourEchoModel" "fogNow" "I", Cond.fieldLink RX7 84 "ColourEchoModel" "snow" "I", Cond.fieldLink RX7 87 "ColourEchoModel" "snowNow" "I", Cond.fieldLink RX7 90 "ColourEchoModel" "out" "I"]
def wsX7_wish_r2 : List Cond := [Cond.fieldLink RX7 93 "ColourEchoModel" "outNow" "I", Cond.fieldLink RX7 96 "ColourEchoModel" "day" "I", Cond.fieldLink RX7 99 "ColourEchoModel" "dayNow" "I", Cond.methodLink RX7 111 yX7_has, Cond.static yX7_has, Cond.code yX7_has cX7_has 2 (some .boolean), Cond.methodLink RX7 134 yX7_wear, Cond.instanceMethod yX7_wear, Cond.selects RX7 yX7_wear yX7_wear, Cond.code yX7_wear cX7_wear 3 none, Cond.fieldLink RX7 16 "ColourEchoModel" "dress" "[I", Cond.methodLink RX7 148 yX7_waits, Cond.instanceMethod yX7_waits, Cond.selects RX7 yX7_waits yX7_waits, Cond.code yX7_waits cX7_waits 3 none, Cond.methodLink RX7 108 yX7_pass, Cond.instanceMethod yX7_pass, Cond.selects RX7 yX7_pass yX7_pass, Cond.code yX7_pass cX7_pass 7 none, Cond.methodLink RX7 105 yX7_see, Cond.instanceMethod yX7_see, Cond.selects RX7 yX7_see yX7_see, Cond.code yX7_see cX7_see 4 (some .int), Cond.fieldLink RX7 7 "ColourEchoModel" "off" "[I"]
def wsX7_wish_r3 : List Cond := [Cond.methodLink RX7 156 yX7_apartBy, Cond.static yX7_apartBy, Cond.code yX7_apartBy cX7_apartBy 2 (some .int)]
def wsX7_wish : List Cond := .code yX7_wish cX7_wish 9 (some .int) :: ((wsX7_wish_r1 ++ (wsX7_wish_r2 ++ wsX7_wish_r3)) ++ wsX70)
def wsX7_whiten_r1 : List Cond := [Cond.fieldLink RX7 41 "ColourEchoModel" "keep" "[I", Cond.methodLink RX7 144 yX7_isDay, Cond.static yX7_isDay, Cond.initialized RX7, Cond.code yX7_isDay cX7_isDay 1 (some .boolean), Cond.methodLink RX7 63 yX7_in, Cond.static yX7_in, Cond.code yX7_in cX7_in 3 (some .boolean), Cond.methodLink RX7 160 yX7_bits, Cond.static yX7_bits, Cond.code yX7_bits cX7_bits 3 (some .int), Cond.methodLink RX7 102 yX7_asNow, Cond.instanceMethod yX7_asNow, Cond.selects RX7 yX7_asNow yX7_asNow, Cond.code yX7_asNow cX7_asNow 2 none, Cond.fieldLink RX7 35 "ColourEchoModel" "shown" "[I", Cond.fieldLink RX7 23 "ColourEchoModel" "shownToday" "[I", Cond.fieldLink RX7 38 "ColourEchoModel" "then" "[I", Cond.fieldLink RX7 26 "ColourEchoModel" "past" "[I", Cond.fieldLink RX7 13 "ColourEchoModel" "keeps" "[I", Cond.fieldLink RX7 78 "ColourEchoModel" "fog" "I", Cond.fieldLink RX7 81 "ColourEchoModel" "fogNow" "I", Cond.fieldLink RX7 84 "ColourEchoModel" "snow" "I", Cond.fieldLink RX7 87 "ColourEchoModel" "snowNow" "I"]
def wsX7_whiten_r2 : List Cond := [Cond.fieldLink RX7 90 "ColourEchoModel" "out" "I", Cond.fieldLink RX7 93 "ColourEchoModel" "outNow" "I", Cond.fieldLink RX7 96 "ColourEchoModel" "day" "I", Cond.fieldLink RX7 99 "ColourEchoModel" "dayNow" "I", Cond.methodLink RX7 111 yX7_has, Cond.static yX7_has, Cond.code yX7_has cX7_has 2 (some .boolean), Cond.methodLink RX7 105 yX7_see, Cond.instanceMethod yX7_see, Cond.selects RX7 yX7_see yX7_see, Cond.code yX7_see cX7_see 4 (some .int), Cond.fieldLink RX7 7 "ColourEchoModel" "off" "[I", Cond.methodLink RX7 108 yX7_pass, Cond.instanceMethod yX7_pass, Cond.selects RX7 yX7_pass yX7_pass, Cond.code yX7_pass cX7_pass 7 none]
def wsX7_whiten : List Cond := .code yX7_whiten cX7_whiten 8 (some .int) :: ((wsX7_whiten_r1 ++ wsX7_whiten_r2) ++ wsX70)
def wsX7_apart_r1 : List Cond := [Cond.fieldLink RX7 44 "ColourEchoModel" "echo" "[I", Cond.methodLink RX7 63 yX7_in, Cond.static yX7_in, Cond.initialized RX7, Cond.code yX7_in cX7_in 3 (some .boolean), Cond.methodLink RX7 144 yX7_isDay, Cond.static yX7_isDay, Cond.code yX7_isDay cX7_isDay 1 (some .boolean), Cond.methodLink RX7 163 yX7_empty, Cond.instanceMethod yX7_empty, Cond.selects RX7 yX7_empty yX7_empty, Cond.code yX7_empty cX7_empty 2 none, Cond.fieldLink RX7 35 "ColourEchoModel" "shown" "[I", Cond.fieldLink RX7 38 "ColourEchoModel" "then" "[I", Cond.fieldLink RX7 81 "ColourEchoModel" "fogNow" "I", Cond.fieldLink RX7 87 "ColourEchoModel" "snowNow" "I", Cond.methodLink RX7 102 yX7_asNow, Cond.instanceMethod yX7_asNow, Cond.selects RX7 yX7_asNow yX7_asNow, Cond.code yX7_asNow cX7_asNow 2 none, Cond.fieldLink RX7 23 "ColourEchoModel" "shownToday" "[I", Cond.fieldLink RX7 26 "ColourEchoModel" "past" "[I", Cond.fieldLink RX7 41 "ColourEchoModel" "keep" "[I", Cond.fieldLink RX7 13 "ColourEchoModel" "keeps" "[I"]
def wsX7_apart_r2 : List Cond := [Cond.fieldLink RX7 78 "ColourEchoModel" "fog" "I", Cond.fieldLink RX7 84 "ColourEchoModel" "snow" "I", Cond.fieldLink RX7 90 "ColourEchoModel" "out" "I", Cond.fieldLink RX7 93 "ColourEchoModel" "outNow" "I", Cond.fieldLink RX7 96 "ColourEchoModel" "day" "I", Cond.fieldLink RX7 99 "ColourEchoModel" "dayNow" "I", Cond.methodLink RX7 134 yX7_wear, Cond.instanceMethod yX7_wear, Cond.selects RX7 yX7_wear yX7_wear, Cond.code yX7_wear cX7_wear 3 none, Cond.fieldLink RX7 16 "ColourEchoModel" "dress" "[I", Cond.methodLink RX7 148 yX7_waits, Cond.instanceMethod yX7_waits, Cond.selects RX7 yX7_waits yX7_waits, Cond.code yX7_waits cX7_waits 3 none, Cond.methodLink RX7 108 yX7_pass, Cond.instanceMethod yX7_pass, Cond.selects RX7 yX7_pass yX7_pass, Cond.code yX7_pass cX7_pass 7 none, Cond.methodLink RX7 105 yX7_see, Cond.instanceMethod yX7_see, Cond.selects RX7 yX7_see yX7_see, Cond.code yX7_see cX7_see 4 (some .int), Cond.fieldLink RX7 7 "ColourEchoModel" "off" "[I"]
def wsX7_apart_r3 : List Cond := [Cond.methodLink RX7 111 yX7_has, Cond.static yX7_has, Cond.code yX7_has cX7_has 2 (some .boolean)]
def wsX7_apart : List Cond := .code yX7_apart cX7_apart 9 (some .int) :: ((wsX7_apart_r1 ++ (wsX7_apart_r2 ++ wsX7_apart_r3)) ++ wsX70)
def wsX7_allBehind_r1 : List Cond := [Cond.methodLink RX7 163 yX7_empty, Cond.instanceMethod yX7_empty, Cond.selects RX7 yX7_empty yX7_empty, Cond.initialized RX7, Cond.code yX7_empty cX7_empty 2 none, Cond.fieldLink RX7 35 "ColourEchoModel" "shown" "[I", Cond.fieldLink RX7 38 "ColourEchoModel" "then" "[I", Cond.fieldLink RX7 81 "ColourEchoModel" "fogNow" "I", Cond.fieldLink RX7 87 "ColourEchoModel" "snowNow" "I", Cond.methodLink RX7 102 yX7_asNow, Cond.instanceMethod yX7_asNow, Cond.selects RX7 yX7_asNow yX7_asNow, Cond.code yX7_asNow cX7_asNow 2 none, Cond.fieldLink RX7 23 "ColourEchoModel" "shownToday" "[I", Cond.fieldLink RX7 26 "ColourEchoModel" "past" "[I", Cond.fieldLink RX7 41 "ColourEchoModel" "keep" "[I", Cond.fieldLink RX7 13 "ColourEchoModel" "keeps" "[I", Cond.fieldLink RX7 78 "ColourEchoModel" "fog" "I", Cond.fieldLink RX7 84 "ColourEchoModel" "snow" "I", Cond.fieldLink RX7 90 "ColourEchoModel" "out" "I", Cond.fieldLink RX7 93 "ColourEchoModel" "outNow" "I", Cond.fieldLink RX7 96 "ColourEchoModel" "day" "I", Cond.fieldLink RX7 99 "ColourEchoModel" "dayNow" "I", Cond.methodLink RX7 134 yX7_wear]
def wsX7_allBehind_r2 : List Cond := [Cond.instanceMethod yX7_wear, Cond.selects RX7 yX7_wear yX7_wear, Cond.code yX7_wear cX7_wear 3 none, Cond.fieldLink RX7 16 "ColourEchoModel" "dress" "[I", Cond.methodLink RX7 148 yX7_waits, Cond.instanceMethod yX7_waits, Cond.selects RX7 yX7_waits yX7_waits, Cond.code yX7_waits cX7_waits 3 none, Cond.methodLink RX7 108 yX7_pass, Cond.instanceMethod yX7_pass, Cond.selects RX7 yX7_pass yX7_pass, Cond.code yX7_pass cX7_pass 7 none, Cond.methodLink RX7 105 yX7_see, Cond.instanceMethod yX7_see, Cond.selects RX7 yX7_see yX7_see, Cond.code yX7_see cX7_see 4 (some .int), Cond.fieldLink RX7 7 "ColourEchoModel" "off" "[I", Cond.methodLink RX7 151 yX7_seeAll, Cond.instanceMethod yX7_seeAll, Cond.selects RX7 yX7_seeAll yX7_seeAll, Cond.code yX7_seeAll cX7_seeAll 1 (some .int)]
def wsX7_allBehind : List Cond := .code yX7_allBehind cX7_allBehind 4 (some .int) :: ((wsX7_allBehind_r1 ++ wsX7_allBehind_r2) ++ wsX70)
def wsX7_spoil_r1 : List Cond := [Cond.methodLink RX7 63 yX7_in, Cond.static yX7_in, Cond.initialized RX7, Cond.code yX7_in cX7_in 3 (some .boolean), Cond.methodLink RX7 144 yX7_isDay, Cond.static yX7_isDay, Cond.code yX7_isDay cX7_isDay 1 (some .boolean), Cond.methodLink RX7 166 yX7_allBehind, Cond.instanceMethod yX7_allBehind, Cond.selects RX7 yX7_allBehind yX7_allBehind, Cond.code yX7_allBehind cX7_allBehind 4 (some .int), Cond.methodLink RX7 163 yX7_empty, Cond.instanceMethod yX7_empty, Cond.selects RX7 yX7_empty yX7_empty, Cond.code yX7_empty cX7_empty 2 none, Cond.fieldLink RX7 35 "ColourEchoModel" "shown" "[I", Cond.fieldLink RX7 38 "ColourEchoModel" "then" "[I", Cond.fieldLink RX7 81 "ColourEchoModel" "fogNow" "I", Cond.fieldLink RX7 87 "ColourEchoModel" "snowNow" "I", Cond.methodLink RX7 102 yX7_asNow, Cond.instanceMethod yX7_asNow, Cond.selects RX7 yX7_asNow yX7_asNow, Cond.code yX7_asNow cX7_asNow 2 none, Cond.fieldLink RX7 23 "ColourEchoModel" "shownToday" "[I"]
def wsX7_spoil_r2 : List Cond := [Cond.fieldLink RX7 26 "ColourEchoModel" "past" "[I", Cond.fieldLink RX7 41 "ColourEchoModel" "keep" "[I", Cond.fieldLink RX7 13 "ColourEchoModel" "keeps" "[I", Cond.fieldLink RX7 78 "ColourEchoModel" "fog" "I", Cond.fieldLink RX7 84 "ColourEchoModel" "snow" "I", Cond.fieldLink RX7 90 "ColourEchoModel" "out" "I", Cond.fieldLink RX7 93 "ColourEchoModel" "outNow" "I", Cond.fieldLink RX7 96 "ColourEchoModel" "day" "I", Cond.fieldLink RX7 99 "ColourEchoModel" "dayNow" "I", Cond.methodLink RX7 134 yX7_wear, Cond.instanceMethod yX7_wear, Cond.selects RX7 yX7_wear yX7_wear, Cond.code yX7_wear cX7_wear 3 none, Cond.fieldLink RX7 16 "ColourEchoModel" "dress" "[I", Cond.methodLink RX7 148 yX7_waits, Cond.instanceMethod yX7_waits, Cond.selects RX7 yX7_waits yX7_waits, Cond.code yX7_waits cX7_waits 3 none, Cond.methodLink RX7 108 yX7_pass, Cond.instanceMethod yX7_pass, Cond.selects RX7 yX7_pass yX7_pass, Cond.code yX7_pass cX7_pass 7 none, Cond.methodLink RX7 105 yX7_see, Cond.instanceMethod yX7_see]
def wsX7_spoil_r3 : List Cond := [Cond.selects RX7 yX7_see yX7_see, Cond.code yX7_see cX7_see 4 (some .int), Cond.fieldLink RX7 7 "ColourEchoModel" "off" "[I", Cond.methodLink RX7 151 yX7_seeAll, Cond.instanceMethod yX7_seeAll, Cond.selects RX7 yX7_seeAll yX7_seeAll, Cond.code yX7_seeAll cX7_seeAll 1 (some .int)]
def wsX7_spoil : List Cond := .code yX7_spoil cX7_spoil 4 (some .int) :: ((wsX7_spoil_r1 ++ (wsX7_spoil_r2 ++ wsX7_spoil_r3)) ++ wsX70)
def wsX7_seen : List Cond := .code yX7_seen cX7_seen 3 (some .int) :: ([.fieldLink RX7 170 "ColourEchoModel" "sights" "I", .fieldLink RX7 29 "ColourEchoModel" "sight" "[I", .methodLink RX7 144 yX7_isDay, .static yX7_isDay, .initialized RX7, .code yX7_isDay cX7_isDay 1 (some .boolean), .methodLink RX7 63 yX7_in, .static yX7_in, .code yX7_in cX7_in 3 (some .boolean)] ++ wsX70)
def wsX7_forget : List Cond := .code yX7_forget cX7_forget 2 (some .int) :: ([.fieldLink RX7 170 "ColourEchoModel" "sights" "I"] ++ wsX70)
def wsX7_layShown_r1 : List Cond := [Cond.fieldLink RX7 35 "ColourEchoModel" "shown" "[I", Cond.fieldLink RX7 47 "ColourEchoModel" "since" "[I", Cond.methodLink RX7 163 yX7_empty, Cond.instanceMethod yX7_empty, Cond.selects RX7 yX7_empty yX7_empty, Cond.initialized RX7, Cond.code yX7_empty cX7_empty 2 none, Cond.fieldLink RX7 38 "ColourEchoModel" "then" "[I", Cond.fieldLink RX7 81 "ColourEchoModel" "fogNow" "I", Cond.fieldLink RX7 87 "ColourEchoModel" "snowNow" "I", Cond.methodLink RX7 102 yX7_asNow, Cond.instanceMethod yX7_asNow, Cond.selects RX7 yX7_asNow yX7_asNow, Cond.code yX7_asNow cX7_asNow 2 none, Cond.fieldLink RX7 23 "ColourEchoModel" "shownToday" "[I", Cond.fieldLink RX7 26 "ColourEchoModel" "past" "[I", Cond.fieldLink RX7 41 "ColourEchoModel" "keep" "[I", Cond.fieldLink RX7 13 "ColourEchoModel" "keeps" "[I", Cond.fieldLink RX7 78 "ColourEchoModel" "fog" "I", Cond.fieldLink RX7 84 "ColourEchoModel" "snow" "I", Cond.fieldLink RX7 90 "ColourEchoModel" "out" "I", Cond.fieldLink RX7 93 "ColourEchoModel" "outNow" "I", Cond.fieldLink RX7 96 "ColourEchoModel" "day" "I", Cond.fieldLink RX7 99 "ColourEchoModel" "dayNow" "I"]
def wsX7_layShown_r2 : List Cond := [Cond.methodLink RX7 105 yX7_see, Cond.instanceMethod yX7_see, Cond.selects RX7 yX7_see yX7_see, Cond.code yX7_see cX7_see 4 (some .int), Cond.fieldLink RX7 7 "ColourEchoModel" "off" "[I", Cond.methodLink RX7 108 yX7_pass, Cond.instanceMethod yX7_pass, Cond.selects RX7 yX7_pass yX7_pass, Cond.code yX7_pass cX7_pass 7 none]
def wsX7_layShown : List Cond := .code yX7_layShown cX7_layShown 3 none :: ((wsX7_layShown_r1 ++ wsX7_layShown_r2) ++ wsX70)
def wsX7_seenOn : List Cond := .code yX7_seenOn cX7_seenOn 4 (some .int) :: ([.fieldLink RX7 47 "ColourEchoModel" "since" "[I"] ++ wsX70)
def wsX7_fits : List Cond := .code yX7_fits cX7_fits 5 (some .boolean) :: ([.fieldLink RX7 170 "ColourEchoModel" "sights" "I", .fieldLink RX7 29 "ColourEchoModel" "sight" "[I", .methodLink RX7 173 yX7_seenOn, .instanceMethod yX7_seenOn, .selects RX7 yX7_seenOn yX7_seenOn, .initialized RX7, .code yX7_seenOn cX7_seenOn 4 (some .int), .fieldLink RX7 47 "ColourEchoModel" "since" "[I"] ++ wsX70)
def wsX7_shown_r1 : List Cond := [Cond.methodLink RX7 176 yX7_layShown, Cond.instanceMethod yX7_layShown, Cond.selects RX7 yX7_layShown yX7_layShown, Cond.initialized RX7, Cond.code yX7_layShown cX7_layShown 3 none, Cond.fieldLink RX7 35 "ColourEchoModel" "shown" "[I", Cond.fieldLink RX7 47 "ColourEchoModel" "since" "[I", Cond.methodLink RX7 163 yX7_empty, Cond.instanceMethod yX7_empty, Cond.selects RX7 yX7_empty yX7_empty, Cond.code yX7_empty cX7_empty 2 none, Cond.fieldLink RX7 38 "ColourEchoModel" "then" "[I", Cond.fieldLink RX7 81 "ColourEchoModel" "fogNow" "I", Cond.fieldLink RX7 87 "ColourEchoModel" "snowNow" "I", Cond.methodLink RX7 102 yX7_asNow, Cond.instanceMethod yX7_asNow, Cond.selects RX7 yX7_asNow yX7_asNow, Cond.code yX7_asNow cX7_asNow 2 none, Cond.fieldLink RX7 23 "ColourEchoModel" "shownToday" "[I", Cond.fieldLink RX7 26 "ColourEchoModel" "past" "[I", Cond.fieldLink RX7 41 "ColourEchoModel" "keep" "[I", Cond.fieldLink RX7 13 "ColourEchoModel" "keeps" "[I", Cond.fieldLink RX7 78 "ColourEchoModel" "fog" "I", Cond.fieldLink RX7 84 "ColourEchoModel" "snow" "I"]
def wsX7_shown_r2 : List Cond := [Cond.fieldLink RX7 90 "ColourEchoModel" "out" "I", Cond.fieldLink RX7 93 "ColourEchoModel" "outNow" "I", Cond.fieldLink RX7 96 "ColourEchoModel" "day" "I", Cond.fieldLink RX7 99 "ColourEchoModel" "dayNow" "I", Cond.methodLink RX7 105 yX7_see, Cond.instanceMethod yX7_see, Cond.selects RX7 yX7_see yX7_see, Cond.code yX7_see cX7_see 4 (some .int), Cond.fieldLink RX7 7 "ColourEchoModel" "off" "[I", Cond.methodLink RX7 108 yX7_pass, Cond.instanceMethod yX7_pass, Cond.selects RX7 yX7_pass yX7_pass, Cond.code yX7_pass cX7_pass 7 none, Cond.methodLink RX7 179 yX7_fits, Cond.instanceMethod yX7_fits, Cond.selects RX7 yX7_fits yX7_fits, Cond.code yX7_fits cX7_fits 5 (some .boolean), Cond.fieldLink RX7 170 "ColourEchoModel" "sights" "I", Cond.fieldLink RX7 29 "ColourEchoModel" "sight" "[I", Cond.methodLink RX7 173 yX7_seenOn, Cond.instanceMethod yX7_seenOn, Cond.selects RX7 yX7_seenOn yX7_seenOn, Cond.code yX7_seenOn cX7_seenOn 4 (some .int)]
def wsX7_shown : List Cond := .code yX7_shown cX7_shown 5 (some .int) :: ((wsX7_shown_r1 ++ wsX7_shown_r2) ++ wsX70)
def wsX7_look_r1 : List Cond := [Cond.constant RX7 155 (1000000), Cond.fieldLink RX7 50 "ColourEchoModel" "counts" "[I", Cond.methodLink RX7 63 yX7_in, Cond.static yX7_in, Cond.initialized RX7, Cond.code yX7_in cX7_in 3 (some .boolean), Cond.methodLink RX7 176 yX7_layShown, Cond.instanceMethod yX7_layShown, Cond.selects RX7 yX7_layShown yX7_layShown, Cond.code yX7_layShown cX7_layShown 3 none, Cond.fieldLink RX7 35 "ColourEchoModel" "shown" "[I", Cond.fieldLink RX7 47 "ColourEchoModel" "since" "[I", Cond.methodLink RX7 163 yX7_empty, Cond.instanceMethod yX7_empty, Cond.selects RX7 yX7_empty yX7_empty, Cond.code yX7_empty cX7_empty 2 none, Cond.fieldLink RX7 38 "ColourEchoModel" "then" "[I", Cond.fieldLink RX7 81 "ColourEchoModel" "fogNow" "I", Cond.fieldLink RX7 87 "ColourEchoModel" "snowNow" "I", Cond.methodLink RX7 102 yX7_asNow, Cond.instanceMethod yX7_asNow, Cond.selects RX7 yX7_asNow yX7_asNow, Cond.code yX7_asNow cX7_asNow 2 none, Cond.fieldLink RX7 23 "ColourEchoModel" "shownToday" "[I"]
def wsX7_look_r2 : List Cond := [Cond.fieldLink RX7 26 "ColourEchoModel" "past" "[I", Cond.fieldLink RX7 41 "ColourEchoModel" "keep" "[I", Cond.fieldLink RX7 13 "ColourEchoModel" "keeps" "[I", Cond.fieldLink RX7 78 "ColourEchoModel" "fog" "I", Cond.fieldLink RX7 84 "ColourEchoModel" "snow" "I", Cond.fieldLink RX7 90 "ColourEchoModel" "out" "I", Cond.fieldLink RX7 93 "ColourEchoModel" "outNow" "I", Cond.fieldLink RX7 96 "ColourEchoModel" "day" "I", Cond.fieldLink RX7 99 "ColourEchoModel" "dayNow" "I", Cond.methodLink RX7 105 yX7_see, Cond.instanceMethod yX7_see, Cond.selects RX7 yX7_see yX7_see, Cond.code yX7_see cX7_see 4 (some .int), Cond.fieldLink RX7 7 "ColourEchoModel" "off" "[I", Cond.methodLink RX7 108 yX7_pass, Cond.instanceMethod yX7_pass, Cond.selects RX7 yX7_pass yX7_pass, Cond.code yX7_pass cX7_pass 7 none, Cond.methodLink RX7 179 yX7_fits, Cond.instanceMethod yX7_fits, Cond.selects RX7 yX7_fits yX7_fits, Cond.code yX7_fits cX7_fits 5 (some .boolean), Cond.fieldLink RX7 170 "ColourEchoModel" "sights" "I", Cond.fieldLink RX7 29 "ColourEchoModel" "sight" "[I"]
def wsX7_look_r3 : List Cond := [Cond.methodLink RX7 173 yX7_seenOn, Cond.instanceMethod yX7_seenOn, Cond.selects RX7 yX7_seenOn yX7_seenOn, Cond.code yX7_seenOn cX7_seenOn 4 (some .int)]
def wsX7_look : List Cond := .code yX7_look cX7_look 8 (some .int) :: ((wsX7_look_r1 ++ (wsX7_look_r2 ++ wsX7_look_r3)) ++ wsX70)
def wsX7_fogs_r1 : List Cond := [Cond.constantLong RX7 182 (-1000000000000000002), Cond.constantLong RX7 184 (10), Cond.fieldLink RX7 81 "ColourEchoModel" "fogNow" "I", Cond.methodLink RX7 63 yX7_in, Cond.static yX7_in, Cond.initialized RX7, Cond.code yX7_in cX7_in 3 (some .boolean), Cond.methodLink RX7 102 yX7_asNow, Cond.instanceMethod yX7_asNow, Cond.selects RX7 yX7_asNow yX7_asNow, Cond.code yX7_asNow cX7_asNow 2 none, Cond.fieldLink RX7 35 "ColourEchoModel" "shown" "[I", Cond.fieldLink RX7 23 "ColourEchoModel" "shownToday" "[I", Cond.fieldLink RX7 38 "ColourEchoModel" "then" "[I", Cond.fieldLink RX7 26 "ColourEchoModel" "past" "[I", Cond.fieldLink RX7 41 "ColourEchoModel" "keep" "[I", Cond.fieldLink RX7 13 "ColourEchoModel" "keeps" "[I", Cond.fieldLink RX7 78 "ColourEchoModel" "fog" "I", Cond.fieldLink RX7 84 "ColourEchoModel" "snow" "I", Cond.fieldLink RX7 87 "ColourEchoModel" "snowNow" "I", Cond.fieldLink RX7 90 "ColourEchoModel" "out" "I", Cond.fieldLink RX7 93 "ColourEchoModel" "outNow" "I", Cond.fieldLink RX7 96 "ColourEchoModel" "day" "I", Cond.fieldLink RX7 99 "ColourEchoModel" "dayNow" "I"]
def wsX7_fogs_r2 : List Cond := [Cond.methodLink RX7 108 yX7_pass, Cond.instanceMethod yX7_pass, Cond.selects RX7 yX7_pass yX7_pass, Cond.code yX7_pass cX7_pass 7 none, Cond.methodLink RX7 105 yX7_see, Cond.instanceMethod yX7_see, Cond.selects RX7 yX7_see yX7_see, Cond.code yX7_see cX7_see 4 (some .int), Cond.fieldLink RX7 7 "ColourEchoModel" "off" "[I", Cond.methodLink RX7 111 yX7_has, Cond.static yX7_has, Cond.code yX7_has cX7_has 2 (some .boolean)]
def wsX7_fogs : List Cond := .code yX7_fogs cX7_fogs 17 (some .long) :: ((wsX7_fogs_r1 ++ wsX7_fogs_r2) ++ wsX70)
def wsX7_isOverBy_r1 : List Cond := [Cond.methodLink RX7 102 yX7_asNow, Cond.instanceMethod yX7_asNow, Cond.selects RX7 yX7_asNow yX7_asNow, Cond.initialized RX7, Cond.code yX7_asNow cX7_asNow 2 none, Cond.fieldLink RX7 35 "ColourEchoModel" "shown" "[I", Cond.fieldLink RX7 23 "ColourEchoModel" "shownToday" "[I", Cond.fieldLink RX7 38 "ColourEchoModel" "then" "[I", Cond.fieldLink RX7 26 "ColourEchoModel" "past" "[I", Cond.fieldLink RX7 41 "ColourEchoModel" "keep" "[I", Cond.fieldLink RX7 13 "ColourEchoModel" "keeps" "[I", Cond.fieldLink RX7 78 "ColourEchoModel" "fog" "I", Cond.fieldLink RX7 81 "ColourEchoModel" "fogNow" "I", Cond.fieldLink RX7 84 "ColourEchoModel" "snow" "I", Cond.fieldLink RX7 87 "ColourEchoModel" "snowNow" "I", Cond.fieldLink RX7 90 "ColourEchoModel" "out" "I", Cond.fieldLink RX7 93 "ColourEchoModel" "outNow" "I", Cond.fieldLink RX7 96 "ColourEchoModel" "day" "I", Cond.fieldLink RX7 99 "ColourEchoModel" "dayNow" "I", Cond.methodLink RX7 111 yX7_has, Cond.static yX7_has, Cond.code yX7_has cX7_has 2 (some .boolean), Cond.methodLink RX7 134 yX7_wear, Cond.instanceMethod yX7_wear]
def wsX7_isOverBy_r2 : List Cond := [Cond.selects RX7 yX7_wear yX7_wear, Cond.code yX7_wear cX7_wear 3 none, Cond.fieldLink RX7 16 "ColourEchoModel" "dress" "[I", Cond.methodLink RX7 118 yX7_isOver, Cond.instanceMethod yX7_isOver, Cond.selects RX7 yX7_isOver yX7_isOver, Cond.code yX7_isOver cX7_isOver 1 (some .boolean), Cond.fieldLink RX7 19 "ColourEchoModel" "limit" "I", Cond.methodLink RX7 105 yX7_see, Cond.instanceMethod yX7_see, Cond.selects RX7 yX7_see yX7_see, Cond.code yX7_see cX7_see 4 (some .int), Cond.fieldLink RX7 7 "ColourEchoModel" "off" "[I"]
def wsX7_isOverBy : List Cond := .code yX7_isOverBy cX7_isOverBy 3 (some .boolean) :: ((wsX7_isOverBy_r1 ++ wsX7_isOverBy_r2) ++ wsX70)
def wsX7_turns_r1 : List Cond := [Cond.fieldLink RX7 53 "ColourEchoModel" "value" "[I", Cond.methodLink RX7 63 yX7_in, Cond.static yX7_in, Cond.initialized RX7, Cond.code yX7_in cX7_in 3 (some .boolean), Cond.methodLink RX7 111 yX7_has, Cond.static yX7_has, Cond.code yX7_has cX7_has 2 (some .boolean), Cond.methodLink RX7 186 yX7_isOverBy, Cond.instanceMethod yX7_isOverBy, Cond.selects RX7 yX7_isOverBy yX7_isOverBy, Cond.code yX7_isOverBy cX7_isOverBy 3 (some .boolean), Cond.methodLink RX7 102 yX7_asNow, Cond.instanceMethod yX7_asNow, Cond.selects RX7 yX7_asNow yX7_asNow, Cond.code yX7_asNow cX7_asNow 2 none, Cond.fieldLink RX7 35 "ColourEchoModel" "shown" "[I", Cond.fieldLink RX7 23 "ColourEchoModel" "shownToday" "[I", Cond.fieldLink RX7 38 "ColourEchoModel" "then" "[I", Cond.fieldLink RX7 26 "ColourEchoModel" "past" "[I", Cond.fieldLink RX7 41 "ColourEchoModel" "keep" "[I", Cond.fieldLink RX7 13 "ColourEchoModel" "keeps" "[I", Cond.fieldLink RX7 78 "ColourEchoModel" "fog" "I", Cond.fieldLink RX7 81 "ColourEchoModel" "fogNow" "I"]
def wsX7_turns_r2 : List Cond := [Cond.fieldLink RX7 84 "ColourEchoModel" "snow" "I", Cond.fieldLink RX7 87 "ColourEchoModel" "snowNow" "I", Cond.fieldLink RX7 90 "ColourEchoModel" "out" "I", Cond.fieldLink RX7 93 "ColourEchoModel" "outNow" "I", Cond.fieldLink RX7 96 "ColourEchoModel" "day" "I", Cond.fieldLink RX7 99 "ColourEchoModel" "dayNow" "I", Cond.methodLink RX7 134 yX7_wear, Cond.instanceMethod yX7_wear, Cond.selects RX7 yX7_wear yX7_wear, Cond.code yX7_wear cX7_wear 3 none, Cond.fieldLink RX7 16 "ColourEchoModel" "dress" "[I", Cond.methodLink RX7 118 yX7_isOver, Cond.instanceMethod yX7_isOver, Cond.selects RX7 yX7_isOver yX7_isOver, Cond.code yX7_isOver cX7_isOver 1 (some .boolean), Cond.fieldLink RX7 19 "ColourEchoModel" "limit" "I", Cond.methodLink RX7 105 yX7_see, Cond.instanceMethod yX7_see, Cond.selects RX7 yX7_see yX7_see, Cond.code yX7_see cX7_see 4 (some .int), Cond.fieldLink RX7 7 "ColourEchoModel" "off" "[I"]
def wsX7_turns : List Cond := .code yX7_turns cX7_turns 8 (some .int) :: ((wsX7_turns_r1 ++ wsX7_turns_r2) ++ wsX70)
def wsX7_year_r1 : List Cond := [Cond.constant RX7 189 (65537), Cond.fieldLink RX7 81 "ColourEchoModel" "fogNow" "I", Cond.fieldLink RX7 87 "ColourEchoModel" "snowNow" "I", Cond.fieldLink RX7 35 "ColourEchoModel" "shown" "[I", Cond.methodLink RX7 63 yX7_in, Cond.static yX7_in, Cond.initialized RX7, Cond.code yX7_in cX7_in 3 (some .boolean), Cond.methodLink RX7 102 yX7_asNow, Cond.instanceMethod yX7_asNow, Cond.selects RX7 yX7_asNow yX7_asNow, Cond.code yX7_asNow cX7_asNow 2 none, Cond.fieldLink RX7 23 "ColourEchoModel" "shownToday" "[I", Cond.fieldLink RX7 38 "ColourEchoModel" "then" "[I", Cond.fieldLink RX7 26 "ColourEchoModel" "past" "[I", Cond.fieldLink RX7 41 "ColourEchoModel" "keep" "[I", Cond.fieldLink RX7 13 "ColourEchoModel" "keeps" "[I", Cond.fieldLink RX7 78 "ColourEchoModel" "fog" "I", Cond.fieldLink RX7 84 "ColourEchoModel" "snow" "I", Cond.fieldLink RX7 90 "ColourEchoModel" "out" "I", Cond.fieldLink RX7 93 "ColourEchoModel" "outNow" "I", Cond.fieldLink RX7 96 "ColourEchoModel" "day" "I", Cond.fieldLink RX7 99 "ColourEchoModel" "dayNow" "I", Cond.methodLink RX7 108 yX7_pass]
def wsX7_year_r2 : List Cond := [Cond.instanceMethod yX7_pass, Cond.selects RX7 yX7_pass yX7_pass, Cond.code yX7_pass cX7_pass 7 none, Cond.methodLink RX7 105 yX7_see, Cond.instanceMethod yX7_see, Cond.selects RX7 yX7_see yX7_see, Cond.code yX7_see cX7_see 4 (some .int), Cond.fieldLink RX7 7 "ColourEchoModel" "off" "[I", Cond.methodLink RX7 118 yX7_isOver, Cond.instanceMethod yX7_isOver, Cond.selects RX7 yX7_isOver yX7_isOver, Cond.code yX7_isOver cX7_isOver 1 (some .boolean), Cond.fieldLink RX7 19 "ColourEchoModel" "limit" "I", Cond.methodLink RX7 151 yX7_seeAll, Cond.instanceMethod yX7_seeAll, Cond.selects RX7 yX7_seeAll yX7_seeAll, Cond.code yX7_seeAll cX7_seeAll 1 (some .int)]
def wsX7_year : List Cond := .code yX7_year cX7_year 9 (some .int) :: ((wsX7_year_r1 ++ wsX7_year_r2) ++ wsX70)
def wsX7_image : List Cond := .code yX7_image cX7_image 4 (some .int) :: ([.fieldLink RX7 56 "ColourEchoModel" "image" "[I", .fieldLink RX7 7 "ColourEchoModel" "off" "[I", .fieldLink RX7 13 "ColourEchoModel" "keeps" "[I", .fieldLink RX7 16 "ColourEchoModel" "dress" "[I", .fieldLink RX7 26 "ColourEchoModel" "past" "[I", .fieldLink RX7 29 "ColourEchoModel" "sight" "[I", .fieldLink RX7 23 "ColourEchoModel" "shownToday" "[I", .fieldLink RX7 19 "ColourEchoModel" "limit" "I", .fieldLink RX7 96 "ColourEchoModel" "day" "I", .fieldLink RX7 78 "ColourEchoModel" "fog" "I", .fieldLink RX7 84 "ColourEchoModel" "snow" "I", .fieldLink RX7 90 "ColourEchoModel" "out" "I", .fieldLink RX7 170 "ColourEchoModel" "sights" "I", .fieldLink RX7 59 "ColourEchoModel" "isKept" "[Z", .methodLink RX7 63 yX7_in, .static yX7_in, .initialized RX7, .code yX7_in cX7_in 3 (some .boolean)] ++ wsX70)
def wsX7_restore : List Cond := .code yX7_restore cX7_restore 4 (some .int) :: ([.fieldLink RX7 59 "ColourEchoModel" "isKept" "[Z", .fieldLink RX7 7 "ColourEchoModel" "off" "[I", .fieldLink RX7 56 "ColourEchoModel" "image" "[I", .fieldLink RX7 13 "ColourEchoModel" "keeps" "[I", .fieldLink RX7 16 "ColourEchoModel" "dress" "[I", .fieldLink RX7 26 "ColourEchoModel" "past" "[I", .fieldLink RX7 29 "ColourEchoModel" "sight" "[I", .fieldLink RX7 23 "ColourEchoModel" "shownToday" "[I", .fieldLink RX7 19 "ColourEchoModel" "limit" "I", .fieldLink RX7 96 "ColourEchoModel" "day" "I", .fieldLink RX7 78 "ColourEchoModel" "fog" "I", .fieldLink RX7 84 "ColourEchoModel" "snow" "I", .fieldLink RX7 90 "ColourEchoModel" "out" "I", .fieldLink RX7 170 "ColourEchoModel" "sights" "I", .methodLink RX7 63 yX7_in, .static yX7_in, .initialized RX7, .code yX7_in cX7_in 3 (some .boolean)] ++ wsX70)
def wsX7_told : List Cond := .code yX7_told cX7_told 3 (some .int) :: ([.fieldLink RX7 16 "ColourEchoModel" "dress" "[I", .fieldLink RX7 7 "ColourEchoModel" "off" "[I", .fieldLink RX7 13 "ColourEchoModel" "keeps" "[I", .fieldLink RX7 67 "ColourEchoModel" "signs" "I", .fieldLink RX7 96 "ColourEchoModel" "day" "I", .fieldLink RX7 19 "ColourEchoModel" "limit" "I", .fieldLink RX7 170 "ColourEchoModel" "sights" "I", .fieldLink RX7 78 "ColourEchoModel" "fog" "I", .fieldLink RX7 84 "ColourEchoModel" "snow" "I", .fieldLink RX7 90 "ColourEchoModel" "out" "I", .methodLink RX7 63 yX7_in, .static yX7_in, .initialized RX7, .code yX7_in cX7_in 3 (some .boolean)] ++ wsX70)
def wsJ9_abs_0f7a4 : List Cond := .code yJ9_abs_0f7a4 cJ9_abs_0f7a4 1 (some .int) :: ([])
def wsJ9_max_7cf53 : List Cond := .code yJ9_max_7cf53 cJ9_max_7cf53 2 (some .int) :: ([])
abbrev vwCl : List vw_C := [(RX0, TX0, 1), (RX1, TX1, 4), (RX2, TX2, 3), (RX3, TX3, 13), (RX4, TX4, 4), (RX5, TX5, 2), (RX6, TX6, 11), (RX7, TX7, 30)]
end
section
/-! Z: the walk of one method with heap and locals abstracted: any heap that holds the world w, any locals that hold lv -/
abbrev ZE : Type := Program × Launch × Env × Room × State × MethodId × Array Value × List Frame × Method × Code × va_G × (Nat → Prop) × (State → Prop)
def Z (E : ZE) (N k n : Nat) (w : va_W) (lv : List (Nat × Value)) (pc : Nat) (st : List Value) : Prop := match E with
  | (p, l, e, R, s, m, args, below, meth, c, D, A, Q) => ∀ (H : Heap) (locs : List Loc) (ls : Array Slot), va_P D vwCl w H → va_D A w → va_S A s.heap H locs → lv_has ls N lv → W p l e R s m args below meth c H locs k n Q (F0 m pc ls st)
def zNl : List (String × Nat × MethodName) := [("ColourEcho", 11, yX3_init), ("ColourEcho", 21, yX5_init), ("ColourEcho", 28, yX1_init), ("ColourEcho$Days", 11, yX3_init), ("ColourEcho", 35, yX0_init), ("ColourEcho", 42, yX4_init), ("ColourEcho", 49, yX2_init), ("ColourEcho$Pad", 26, yX6_isWithin), ("ColourEcho$Gorge", 59, yX6_has), ("ColourEcho$Gorge", 70, yX6_capped), ("ColourEcho$Course", 32, yX6_has), ("ColourEcho$Course", 28, yX6_capped), ("ColourEcho$Game", 26, yX6_has)]
/-- launch, numbers of classes and slots, the two array types' numbers -/
abbrev ZG : Type := Launch × va_G × ClassId × ClassId
abbrev zty (G : ZG) : List (ClassId × FieldType) := [(G.2.2.1, .int), (G.2.2.2, .boolean)]
/-- the links between nest mates -/
def zN (U : State) : Prop := ∀ q ∈ zNl, va_Nw (.methodLinkNest q.1 q.2.1 q.2.2 "ColourEcho") U
theorem zN.warm {s U : State} (hW : s.WarmedH U.vm) (h : zN s) : zN U := fun q hq => va_Nw.warmM hW (h q hq)
theorem zN.same {u U : State} (e : u.vm = U.vm) (h : zN u) : zN U := fun q hq => va_Nw.same rfl e (h q hq)
/-- what stays as it is while a method runs -/
def ZF (E : ZE) (N : Nat) (cc : ByteArray) (own : String) (Ts : List Cond) (rm : Room) (G : ZG) : Prop := match E with
  | (p, l, _, R, s, m, args, _, _, c, D, A, _) => p.tables.exec = Jvm.exec ∧ c.code = cc ∧ c.maxLocals = N ∧ s.vm.findClass own = some m.cls ∧ (∀ w ∈ Ts, w.before args s = true) ∧ va_K D vwCl (zty G) s ∧ zN s ∧ (∀ q, s.heap.size ≤ q → A q) ∧ R = rm ∧ l = G.1 ∧ D = G.2.1
/-- a word of the method's list, true at its start -/
def ZW (E : ZE) (x : Cond) : Prop := match E with
  | (_, _, _, _, s, _, args, _, _, _, _, _, _) => x.before args s = true
section
variable {E : ZE} {N k n : Nat} {w : va_W} {lv : List (Nat × Value)} {pc : Nat} {st : List Value} {cc : ByteArray} {own : String} {Ts : List Cond} {rm : Room} {G : ZG}
theorem ZF.word (F : ZF E N cc own Ts rm G) {x : Cond} (h : x ∈ Ts) : ZW E x := by
  obtain ⟨p, l, e, R, s, m, args, below, meth, c, D, A, Q⟩ := E
  exact F.2.2.2.2.1 x h
theorem ZF.at (F : ZF E N cc own Ts rm G) (i : Nat) {x : Cond} (h : Ts[i]? = some x) : ZW E x := F.word (List.mem_of_getElem? h)
theorem z_iconst {z : Int} {v : Int32} (F : ZF E N cc own Ts rm G) (d : decode cc pc = .ok (.iconst z, 1)) (hv : Int32.ofInt z = v) (h : Z E N k n w lv (pc + 1) (.int v :: st)) : Z E N k n w lv pc (st) := by
  obtain ⟨p, l, e, R, s, m, args, below, meth, c, D, A, Q⟩ := E
  obtain ⟨hx, hb, hml, hown, hts, hK, hN, hA, hR, hGl, hGd⟩ := F
  intro H locs ls hP hD hS hl
  exact lv_iconst hx hb d hv (h H locs ls hP hD hS hl)
theorem z_bipush {z : Int} {v : Int32} (F : ZF E N cc own Ts rm G) (d : decode cc pc = .ok (.bipush z, 2)) (hv : (Int8.ofInt z).toInt32 = v) (h : Z E N k n w lv (pc + 2) (.int v :: st)) : Z E N k n w lv pc (st) := by
  obtain ⟨p, l, e, R, s, m, args, below, meth, c, D, A, Q⟩ := E
  obtain ⟨hx, hb, hml, hown, hts, hK, hN, hA, hR, hGl, hGd⟩ := F
  intro H locs ls hP hD hS hl
  exact lv_bipush hx hb d hv (h H locs ls hP hD hS hl)
theorem z_sipush {z : Int} {v : Int32} (F : ZF E N cc own Ts rm G) (d : decode cc pc = .ok (.sipush z, 3)) (hv : (Int16.ofInt z).toInt32 = v) (h : Z E N k n w lv (pc + 3) (.int v :: st)) : Z E N k n w lv pc (st) := by
  obtain ⟨p, l, e, R, s, m, args, below, meth, c, D, A, Q⟩ := E
  obtain ⟨hx, hb, hml, hown, hts, hK, hN, hA, hR, hGl, hGd⟩ := F
  intro H locs ls hP hD hS hl
  exact lv_sipush hx hb d hv (h H locs ls hP hD hS hl)
theorem z_lconst {z : Fin 2} {v : Int64} (F : ZF E N cc own Ts rm G) (d : decode cc pc = .ok (.lconst z, 1)) (hv : Int64.ofNat (z : Nat) = v) (h : Z E N k n w lv (pc + 1) (.long v :: st)) : Z E N k n w lv pc (st) := by
  obtain ⟨p, l, e, R, s, m, args, below, meth, c, D, A, Q⟩ := E
  obtain ⟨hx, hb, hml, hown, hts, hK, hN, hA, hR, hGl, hGd⟩ := F
  intro H locs ls hP hD hS hl
  exact lv_lconst hx hb d hv (h H locs ls hP hD hS hl)
theorem z_ldc {i : Nat} {v : Int32} (F : ZF E N cc own Ts rm G) (d : decode cc pc = .ok (.ldc i, 2)) (hc : ZW E (.constant own i v)) (h : Z E N k n w lv (pc + 2) (.int v :: st)) : Z E N k n w lv pc (st) := by
  obtain ⟨p, l, e, R, s, m, args, below, meth, c, D, A, Q⟩ := E
  obtain ⟨hx, hb, hml, hown, hts, hK, hN, hA, hR, hGl, hGd⟩ := F
  intro H locs ls hP hD hS hl
  exact lv_ldc hx hb hown hc d (h H locs ls hP hD hS hl)
theorem z_ldcw {i : Nat} {v : Int32} (F : ZF E N cc own Ts rm G) (d : decode cc pc = .ok (.ldc_w i, 3)) (hc : ZW E (.constant own i v)) (h : Z E N k n w lv (pc + 3) (.int v :: st)) : Z E N k n w lv pc (st) := by
  obtain ⟨p, l, e, R, s, m, args, below, meth, c, D, A, Q⟩ := E
  obtain ⟨hx, hb, hml, hown, hts, hK, hN, hA, hR, hGl, hGd⟩ := F
  intro H locs ls hP hD hS hl
  exact lv_ldcw hx hb hown hc d (h H locs ls hP hD hS hl)
theorem z_ldc2 {i : Nat} {v : Int64} (F : ZF E N cc own Ts rm G) (d : decode cc pc = .ok (.ldc2_w i, 3)) (hc : ZW E (.constantLong own i v)) (h : Z E N k n w lv (pc + 3) (.long v :: st)) : Z E N k n w lv pc (st) := by
  obtain ⟨p, l, e, R, s, m, args, below, meth, c, D, A, Q⟩ := E
  obtain ⟨hx, hb, hml, hown, hts, hK, hN, hA, hR, hGl, hGd⟩ := F
  intro H locs ls hP hD hS hl
  exact lv_ldc2 hx hb hown hc d (h H locs ls hP hD hS hl)
theorem z_iload_n {q : Fin 4} {i : Nat} {x : Int32} (F : ZF E N cc own Ts rm G) (d : decode cc pc = .ok (.iload_n q, 1)) (hi : (q : Nat) = i) (j : Nat) (hv : lv[j]? = some (i, .int x)) (h : Z E N k n w lv (pc + 1) (.int x :: st)) : Z E N k n w lv pc (st) := by
  obtain ⟨p, l, e, R, s, m, args, below, meth, c, D, A, Q⟩ := E
  obtain ⟨hx, hb, hml, hown, hts, hK, hN, hA, hR, hGl, hGd⟩ := F
  intro H locs ls hP hD hS hl
  exact lv_iload_n hx hb d hi (lv_at hl j hv) (h H locs ls hP hD hS hl)
theorem z_iload {i : Nat} {x : Int32} (F : ZF E N cc own Ts rm G) (d : decode cc pc = .ok (.iload i, 2)) (j : Nat) (hv : lv[j]? = some (i, .int x)) (h : Z E N k n w lv (pc + 2) (.int x :: st)) : Z E N k n w lv pc (st) := by
  obtain ⟨p, l, e, R, s, m, args, below, meth, c, D, A, Q⟩ := E
  obtain ⟨hx, hb, hml, hown, hts, hK, hN, hA, hR, hGl, hGd⟩ := F
  intro H locs ls hP hD hS hl
  exact lv_iload hx hb d (lv_at hl j hv) (h H locs ls hP hD hS hl)
theorem z_lload_n {q : Fin 4} {i : Nat} {x : Int64} (F : ZF E N cc own Ts rm G) (d : decode cc pc = .ok (.lload_n q, 1)) (hi : (q : Nat) = i) (j : Nat) (hv : lv[j]? = some (i, .long x)) (h : Z E N k n w lv (pc + 1) (.long x :: st)) : Z E N k n w lv pc (st) := by
  obtain ⟨p, l, e, R, s, m, args, below, meth, c, D, A, Q⟩ := E
  obtain ⟨hx, hb, hml, hown, hts, hK, hN, hA, hR, hGl, hGd⟩ := F
  intro H locs ls hP hD hS hl
  exact lv_lload_n hx hb d hi (lv_at hl j hv) (h H locs ls hP hD hS hl)
theorem z_lload {i : Nat} {x : Int64} (F : ZF E N cc own Ts rm G) (d : decode cc pc = .ok (.lload i, 2)) (j : Nat) (hv : lv[j]? = some (i, .long x)) (h : Z E N k n w lv (pc + 2) (.long x :: st)) : Z E N k n w lv pc (st) := by
  obtain ⟨p, l, e, R, s, m, args, below, meth, c, D, A, Q⟩ := E
  obtain ⟨hx, hb, hml, hown, hts, hK, hN, hA, hR, hGl, hGd⟩ := F
  intro H locs ls hP hD hS hl
  exact lv_lload hx hb d (lv_at hl j hv) (h H locs ls hP hD hS hl)
theorem z_aload_n {q : Fin 4} {i : Nat} {x : Nat} (F : ZF E N cc own Ts rm G) (d : decode cc pc = .ok (.aload_n q, 1)) (hi : (q : Nat) = i) (j : Nat) (hv : lv[j]? = some (i, .ref x)) (h : Z E N k n w lv (pc + 1) (.ref x :: st)) : Z E N k n w lv pc (st) := by
  obtain ⟨p, l, e, R, s, m, args, below, meth, c, D, A, Q⟩ := E
  obtain ⟨hx, hb, hml, hown, hts, hK, hN, hA, hR, hGl, hGd⟩ := F
  intro H locs ls hP hD hS hl
  exact lv_aload_n hx hb d hi (lv_at hl j hv) (h H locs ls hP hD hS hl)
theorem z_aload {i : Nat} {x : Nat} (F : ZF E N cc own Ts rm G) (d : decode cc pc = .ok (.aload i, 2)) (j : Nat) (hv : lv[j]? = some (i, .ref x)) (h : Z E N k n w lv (pc + 2) (.ref x :: st)) : Z E N k n w lv pc (st) := by
  obtain ⟨p, l, e, R, s, m, args, below, meth, c, D, A, Q⟩ := E
  obtain ⟨hx, hb, hml, hown, hts, hK, hN, hA, hR, hGl, hGd⟩ := F
  intro H locs ls hP hD hS hl
  exact lv_aload hx hb d (lv_at hl j hv) (h H locs ls hP hD hS hl)
theorem z_istore_n {q : Fin 4} {i : Nat} {x : Int32} (lv' : List (Nat × Value)) (F : ZF E N cc own Ts rm G) (d : decode cc pc = .ok (.istore_n q, 1)) (hi : (q : Nat) = i) (hn : i < N) (hv : (i, Value.int x) :: lv.filter (fun q => !(q.1 == i) && !(q.1 + 1 == i && q.2.category == 2)) = lv') (h : Z E N k n w lv' (pc + 1) st) : Z E N k n w lv pc (.int x :: st) := by
  obtain ⟨p, l, e, R, s, m, args, below, meth, c, D, A, Q⟩ := E
  obtain ⟨hx, hb, hml, hown, hts, hK, hN, hA, hR, hGl, hGd⟩ := F
  intro H locs ls hP hD hS hl
  exact lv_istore_n hx hb d hi hl hn hv (fun ls' hl' => h H locs ls' hP hD hS hl')
theorem z_istore {i : Nat} {x : Int32} (lv' : List (Nat × Value)) (F : ZF E N cc own Ts rm G) (d : decode cc pc = .ok (.istore i, 2)) (hn : i < N) (hv : (i, Value.int x) :: lv.filter (fun q => !(q.1 == i) && !(q.1 + 1 == i && q.2.category == 2)) = lv') (h : Z E N k n w lv' (pc + 2) st) : Z E N k n w lv pc (.int x :: st) := by
  obtain ⟨p, l, e, R, s, m, args, below, meth, c, D, A, Q⟩ := E
  obtain ⟨hx, hb, hml, hown, hts, hK, hN, hA, hR, hGl, hGd⟩ := F
  intro H locs ls hP hD hS hl
  exact lv_istore hx hb d hl hn hv (fun ls' hl' => h H locs ls' hP hD hS hl')
theorem z_lstore_n {q : Fin 4} {i : Nat} {x : Int64} (lv' : List (Nat × Value)) (F : ZF E N cc own Ts rm G) (d : decode cc pc = .ok (.lstore_n q, 1)) (hi : (q : Nat) = i) (hn : i + 1 < N) (hv : (i, Value.long x) :: lv.filter (fun q => !(q.1 == i) && (!(q.1 == i + 1) && !(q.1 + 1 == i && q.2.category == 2))) = lv') (h : Z E N k n w lv' (pc + 1) st) : Z E N k n w lv pc (.long x :: st) := by
  obtain ⟨p, l, e, R, s, m, args, below, meth, c, D, A, Q⟩ := E
  obtain ⟨hx, hb, hml, hown, hts, hK, hN, hA, hR, hGl, hGd⟩ := F
  intro H locs ls hP hD hS hl
  exact lv_lstore_n hx hb d hi hl hn hv (fun ls' hl' => h H locs ls' hP hD hS hl')
theorem z_lstore {i : Nat} {x : Int64} (lv' : List (Nat × Value)) (F : ZF E N cc own Ts rm G) (d : decode cc pc = .ok (.lstore i, 2)) (hn : i + 1 < N) (hv : (i, Value.long x) :: lv.filter (fun q => !(q.1 == i) && (!(q.1 == i + 1) && !(q.1 + 1 == i && q.2.category == 2))) = lv') (h : Z E N k n w lv' (pc + 2) st) : Z E N k n w lv pc (.long x :: st) := by
  obtain ⟨p, l, e, R, s, m, args, below, meth, c, D, A, Q⟩ := E
  obtain ⟨hx, hb, hml, hown, hts, hK, hN, hA, hR, hGl, hGd⟩ := F
  intro H locs ls hP hD hS hl
  exact lv_lstore hx hb d hl hn hv (fun ls' hl' => h H locs ls' hP hD hS hl')
theorem z_astore_n {q : Fin 4} {i : Nat} {x : Nat} (lv' : List (Nat × Value)) (F : ZF E N cc own Ts rm G) (d : decode cc pc = .ok (.astore_n q, 1)) (hi : (q : Nat) = i) (hn : i < N) (hv : (i, Value.ref x) :: lv.filter (fun q => !(q.1 == i) && !(q.1 + 1 == i && q.2.category == 2)) = lv') (h : Z E N k n w lv' (pc + 1) st) : Z E N k n w lv pc (.ref x :: st) := by
  obtain ⟨p, l, e, R, s, m, args, below, meth, c, D, A, Q⟩ := E
  obtain ⟨hx, hb, hml, hown, hts, hK, hN, hA, hR, hGl, hGd⟩ := F
  intro H locs ls hP hD hS hl
  exact lv_astore_n hx hb d hi hl hn hv (fun ls' hl' => h H locs ls' hP hD hS hl')
theorem z_astore {i : Nat} {x : Nat} (lv' : List (Nat × Value)) (F : ZF E N cc own Ts rm G) (d : decode cc pc = .ok (.astore i, 2)) (hn : i < N) (hv : (i, Value.ref x) :: lv.filter (fun q => !(q.1 == i) && !(q.1 + 1 == i && q.2.category == 2)) = lv') (h : Z E N k n w lv' (pc + 2) st) : Z E N k n w lv pc (.ref x :: st) := by
  obtain ⟨p, l, e, R, s, m, args, below, meth, c, D, A, Q⟩ := E
  obtain ⟨hx, hb, hml, hown, hts, hK, hN, hA, hR, hGl, hGd⟩ := F
  intro H locs ls hP hD hS hl
  exact lv_astore hx hb d hl hn hv (fun ls' hl' => h H locs ls' hP hD hS hl')
theorem z_iinc {i : Nat} {z : Int} {x v : Int32} (lv' : List (Nat × Value)) (F : ZF E N cc own Ts rm G) (d : decode cc pc = .ok (.iinc i z, 3)) (j : Nat) (hj : lv[j]? = some (i, .int x)) (hv : x + Int32.ofInt z = v) (hn : i < N) (hw : (i, Value.int v) :: lv.filter (fun q => !(q.1 == i) && !(q.1 + 1 == i && q.2.category == 2)) = lv') (h : Z E N k n w lv' (pc + 3) st) : Z E N k n w lv pc st := by
  obtain ⟨p, l, e, R, s, m, args, below, meth, c, D, A, Q⟩ := E
  obtain ⟨hx, hb, hml, hown, hts, hK, hN, hA, hR, hGl, hGd⟩ := F
  intro H locs ls hP hD hS hl
  exact lv_iinc hx hb d hl (k := j) hj hv hn hw (fun ls' hl' => h H locs ls' hP hD hS hl')
theorem z_iadd {x y : Int32} (F : ZF E N cc own Ts rm G) (d : decode cc pc = .ok (.iadd, 1)) (h : Z E N k n w lv (pc + 1) (.int (x + y) :: st)) : Z E N k n w lv pc (.int y :: .int x :: st) := by
  obtain ⟨p, l, e, R, s, m, args, below, meth, c, D, A, Q⟩ := E
  obtain ⟨hx, hb, hml, hown, hts, hK, hN, hA, hR, hGl, hGd⟩ := F
  intro H locs ls hP hD hS hl
  exact lv_iadd hx hb d (h H locs ls hP hD hS hl)
theorem z_isub {x y : Int32} (F : ZF E N cc own Ts rm G) (d : decode cc pc = .ok (.isub, 1)) (h : Z E N k n w lv (pc + 1) (.int (x - y) :: st)) : Z E N k n w lv pc (.int y :: .int x :: st) := by
  obtain ⟨p, l, e, R, s, m, args, below, meth, c, D, A, Q⟩ := E
  obtain ⟨hx, hb, hml, hown, hts, hK, hN, hA, hR, hGl, hGd⟩ := F
  intro H locs ls hP hD hS hl
  exact lv_isub hx hb d (h H locs ls hP hD hS hl)
theorem z_imul {x y : Int32} (F : ZF E N cc own Ts rm G) (d : decode cc pc = .ok (.imul, 1)) (h : Z E N k n w lv (pc + 1) (.int (x * y) :: st)) : Z E N k n w lv pc (.int y :: .int x :: st) := by
  obtain ⟨p, l, e, R, s, m, args, below, meth, c, D, A, Q⟩ := E
  obtain ⟨hx, hb, hml, hown, hts, hK, hN, hA, hR, hGl, hGd⟩ := F
  intro H locs ls hP hD hS hl
  exact lv_imul hx hb d (h H locs ls hP hD hS hl)
theorem z_iand {x y : Int32} (F : ZF E N cc own Ts rm G) (d : decode cc pc = .ok (.iand, 1)) (h : Z E N k n w lv (pc + 1) (.int (x &&& y) :: st)) : Z E N k n w lv pc (.int y :: .int x :: st) := by
  obtain ⟨p, l, e, R, s, m, args, below, meth, c, D, A, Q⟩ := E
  obtain ⟨hx, hb, hml, hown, hts, hK, hN, hA, hR, hGl, hGd⟩ := F
  intro H locs ls hP hD hS hl
  exact lv_iand hx hb d (h H locs ls hP hD hS hl)
theorem z_ior {x y : Int32} (F : ZF E N cc own Ts rm G) (d : decode cc pc = .ok (.ior, 1)) (h : Z E N k n w lv (pc + 1) (.int (x ||| y) :: st)) : Z E N k n w lv pc (.int y :: .int x :: st) := by
  obtain ⟨p, l, e, R, s, m, args, below, meth, c, D, A, Q⟩ := E
  obtain ⟨hx, hb, hml, hown, hts, hK, hN, hA, hR, hGl, hGd⟩ := F
  intro H locs ls hP hD hS hl
  exact lv_ior hx hb d (h H locs ls hP hD hS hl)
theorem z_ixor {x y : Int32} (F : ZF E N cc own Ts rm G) (d : decode cc pc = .ok (.ixor, 1)) (h : Z E N k n w lv (pc + 1) (.int (x ^^^ y) :: st)) : Z E N k n w lv pc (.int y :: .int x :: st) := by
  obtain ⟨p, l, e, R, s, m, args, below, meth, c, D, A, Q⟩ := E
  obtain ⟨hx, hb, hml, hown, hts, hK, hN, hA, hR, hGl, hGd⟩ := F
  intro H locs ls hP hD hS hl
  exact lv_ixor hx hb d (h H locs ls hP hD hS hl)
theorem z_ishl {x y : Int32} (F : ZF E N cc own Ts rm G) (d : decode cc pc = .ok (.ishl, 1)) (h : Z E N k n w lv (pc + 1) (.int (x <<< (y &&& 31)) :: st)) : Z E N k n w lv pc (.int y :: .int x :: st) := by
  obtain ⟨p, l, e, R, s, m, args, below, meth, c, D, A, Q⟩ := E
  obtain ⟨hx, hb, hml, hown, hts, hK, hN, hA, hR, hGl, hGd⟩ := F
  intro H locs ls hP hD hS hl
  exact lv_ishl hx hb d (h H locs ls hP hD hS hl)
theorem z_ishr {x y : Int32} (F : ZF E N cc own Ts rm G) (d : decode cc pc = .ok (.ishr, 1)) (h : Z E N k n w lv (pc + 1) (.int (x >>> (y &&& 31)) :: st)) : Z E N k n w lv pc (.int y :: .int x :: st) := by
  obtain ⟨p, l, e, R, s, m, args, below, meth, c, D, A, Q⟩ := E
  obtain ⟨hx, hb, hml, hown, hts, hK, hN, hA, hR, hGl, hGd⟩ := F
  intro H locs ls hP hD hS hl
  exact lv_ishr hx hb d (h H locs ls hP hD hS hl)
theorem z_iushr {x y : Int32} (F : ZF E N cc own Ts rm G) (d : decode cc pc = .ok (.iushr, 1)) (h : Z E N k n w lv (pc + 1) (.int ((x.toUInt32 >>> (y.toUInt32 &&& Int32.toUInt32 31)).toInt32) :: st)) : Z E N k n w lv pc (.int y :: .int x :: st) := by
  obtain ⟨p, l, e, R, s, m, args, below, meth, c, D, A, Q⟩ := E
  obtain ⟨hx, hb, hml, hown, hts, hK, hN, hA, hR, hGl, hGd⟩ := F
  intro H locs ls hP hD hS hl
  exact lv_iushr hx hb d rfl (h H locs ls hP hD hS hl)
theorem z_idiv {x y : Int32} (F : ZF E N cc own Ts rm G) (d : decode cc pc = .ok (.idiv, 1)) (hne : ¬ y = 0) (h : Z E N k n w lv (pc + 1) (.int (x / y) :: st)) : Z E N k n w lv pc (.int y :: .int x :: st) := by
  obtain ⟨p, l, e, R, s, m, args, below, meth, c, D, A, Q⟩ := E
  obtain ⟨hx, hb, hml, hown, hts, hK, hN, hA, hR, hGl, hGd⟩ := F
  intro H locs ls hP hD hS hl
  exact lv_idiv hx hb d hne (h H locs ls hP hD hS hl)
theorem z_irem {x y : Int32} (F : ZF E N cc own Ts rm G) (d : decode cc pc = .ok (.irem, 1)) (hne : ¬ y = 0) (h : Z E N k n w lv (pc + 1) (.int (x - x / y * y) :: st)) : Z E N k n w lv pc (.int y :: .int x :: st) := by
  obtain ⟨p, l, e, R, s, m, args, below, meth, c, D, A, Q⟩ := E
  obtain ⟨hx, hb, hml, hown, hts, hK, hN, hA, hR, hGl, hGd⟩ := F
  intro H locs ls hP hD hS hl
  exact lv_irem hx hb d hne (h H locs ls hP hD hS hl)
theorem z_ineg {x : Int32} (F : ZF E N cc own Ts rm G) (d : decode cc pc = .ok (.ineg, 1)) (h : Z E N k n w lv (pc + 1) (.int (-x) :: st)) : Z E N k n w lv pc (.int x :: st) := by
  obtain ⟨p, l, e, R, s, m, args, below, meth, c, D, A, Q⟩ := E
  obtain ⟨hx, hb, hml, hown, hts, hK, hN, hA, hR, hGl, hGd⟩ := F
  intro H locs ls hP hD hS hl
  exact lv_ineg hx hb d (h H locs ls hP hD hS hl)
theorem z_ladd {x y : Int64} (F : ZF E N cc own Ts rm G) (d : decode cc pc = .ok (.ladd, 1)) (h : Z E N k n w lv (pc + 1) (.long (x + y) :: st)) : Z E N k n w lv pc (.long y :: .long x :: st) := by
  obtain ⟨p, l, e, R, s, m, args, below, meth, c, D, A, Q⟩ := E
  obtain ⟨hx, hb, hml, hown, hts, hK, hN, hA, hR, hGl, hGd⟩ := F
  intro H locs ls hP hD hS hl
  exact lv_ladd hx hb d (h H locs ls hP hD hS hl)
theorem z_lsub {x y : Int64} (F : ZF E N cc own Ts rm G) (d : decode cc pc = .ok (.lsub, 1)) (h : Z E N k n w lv (pc + 1) (.long (x - y) :: st)) : Z E N k n w lv pc (.long y :: .long x :: st) := by
  obtain ⟨p, l, e, R, s, m, args, below, meth, c, D, A, Q⟩ := E
  obtain ⟨hx, hb, hml, hown, hts, hK, hN, hA, hR, hGl, hGd⟩ := F
  intro H locs ls hP hD hS hl
  exact lv_lsub hx hb d (h H locs ls hP hD hS hl)
theorem z_lmul {x y : Int64} (F : ZF E N cc own Ts rm G) (d : decode cc pc = .ok (.lmul, 1)) (h : Z E N k n w lv (pc + 1) (.long (x * y) :: st)) : Z E N k n w lv pc (.long y :: .long x :: st) := by
  obtain ⟨p, l, e, R, s, m, args, below, meth, c, D, A, Q⟩ := E
  obtain ⟨hx, hb, hml, hown, hts, hK, hN, hA, hR, hGl, hGd⟩ := F
  intro H locs ls hP hD hS hl
  exact lv_lmul hx hb d (h H locs ls hP hD hS hl)
theorem z_ldiv {x y : Int64} (F : ZF E N cc own Ts rm G) (d : decode cc pc = .ok (.ldiv, 1)) (hne : ¬ y = 0) (h : Z E N k n w lv (pc + 1) (.long (x / y) :: st)) : Z E N k n w lv pc (.long y :: .long x :: st) := by
  obtain ⟨p, l, e, R, s, m, args, below, meth, c, D, A, Q⟩ := E
  obtain ⟨hx, hb, hml, hown, hts, hK, hN, hA, hR, hGl, hGd⟩ := F
  intro H locs ls hP hD hS hl
  exact lv_ldiv hx hb d hne (h H locs ls hP hD hS hl)
theorem z_lrem {x y : Int64} (F : ZF E N cc own Ts rm G) (d : decode cc pc = .ok (.lrem, 1)) (hne : ¬ y = 0) (h : Z E N k n w lv (pc + 1) (.long (x - x / y * y) :: st)) : Z E N k n w lv pc (.long y :: .long x :: st) := by
  obtain ⟨p, l, e, R, s, m, args, below, meth, c, D, A, Q⟩ := E
  obtain ⟨hx, hb, hml, hown, hts, hK, hN, hA, hR, hGl, hGd⟩ := F
  intro H locs ls hP hD hS hl
  exact lv_lrem hx hb d hne (h H locs ls hP hD hS hl)
theorem z_lcmp {x y : Int64} (F : ZF E N cc own Ts rm G) (d : decode cc pc = .ok (.lcmp, 1)) (h : Z E N k n w lv (pc + 1) (.int (lg_cmp x y) :: st)) : Z E N k n w lv pc (.long y :: .long x :: st) := by
  obtain ⟨p, l, e, R, s, m, args, below, meth, c, D, A, Q⟩ := E
  obtain ⟨hx, hb, hml, hown, hts, hK, hN, hA, hR, hGl, hGd⟩ := F
  intro H locs ls hP hD hS hl
  exact W.lcmp hx hb d (h H locs ls hP hD hS hl)
theorem z_i2l {x : Int32} (F : ZF E N cc own Ts rm G) (d : decode cc pc = .ok (.i2l, 1)) (h : Z E N k n w lv (pc + 1) (.long x.toInt64 :: st)) : Z E N k n w lv pc (.int x :: st) := by
  obtain ⟨p, l, e, R, s, m, args, below, meth, c, D, A, Q⟩ := E
  obtain ⟨hx, hb, hml, hown, hts, hK, hN, hA, hR, hGl, hGd⟩ := F
  intro H locs ls hP hD hS hl
  exact lv_i2l hx hb d rfl (h H locs ls hP hD hS hl)
theorem z_dup {v : Value} (F : ZF E N cc own Ts rm G) (d : decode cc pc = .ok (.dup, 1)) (hc : v.category = 1) (h : Z E N k n w lv (pc + 1) (v :: v :: st)) : Z E N k n w lv pc (v :: st) := by
  obtain ⟨p, l, e, R, s, m, args, below, meth, c, D, A, Q⟩ := E
  obtain ⟨hx, hb, hml, hown, hts, hK, hN, hA, hR, hGl, hGd⟩ := F
  intro H locs ls hP hD hS hl
  exact lv_dup hx hb d hc (h H locs ls hP hD hS hl)
theorem z_dup2 {v u : Value} (F : ZF E N cc own Ts rm G) (d : decode cc pc = .ok (.dup2, 1)) (hc : v.category = 1) (hc2 : u.category = 1) (h : Z E N k n w lv (pc + 1) (v :: u :: v :: u :: st)) : Z E N k n w lv pc (v :: u :: st) := by
  obtain ⟨p, l, e, R, s, m, args, below, meth, c, D, A, Q⟩ := E
  obtain ⟨hx, hb, hml, hown, hts, hK, hN, hA, hR, hGl, hGd⟩ := F
  intro H locs ls hP hD hS hl
  exact lv_dup2_11 hx hb d hc hc2 (h H locs ls hP hD hS hl)
theorem z_if_eq {x : Int32} {off : Int} (tgt : Nat) (F : ZF E N cc own Ts rm G) (d : decode cc pc = .ok (.ifCond .eq off, 3)) (ht : (pc : Int) + off = (tgt : Int)) (h1 : x = 0 → Z E N k n w lv tgt st) (h2 : ¬ x = 0 → Z E N k n w lv (pc + 3) st) : Z E N k n w lv pc (.int x :: st) := by
  obtain ⟨p, l, e, R, s, m, args, below, meth, c, D, A, Q⟩ := E
  obtain ⟨hx, hb, hml, hown, hts, hK, hN, hA, hR, hGl, hGd⟩ := F
  intro H locs ls hP hD hS hl
  exact lv_if_eq hx hb d ht (fun c9 => h1 c9 H locs ls hP hD hS hl) (fun c9 => h2 c9 H locs ls hP hD hS hl)
theorem z_if_ne {x : Int32} {off : Int} (tgt : Nat) (F : ZF E N cc own Ts rm G) (d : decode cc pc = .ok (.ifCond .ne off, 3)) (ht : (pc : Int) + off = (tgt : Int)) (h1 : ¬ x = 0 → Z E N k n w lv tgt st) (h2 : x = 0 → Z E N k n w lv (pc + 3) st) : Z E N k n w lv pc (.int x :: st) := by
  obtain ⟨p, l, e, R, s, m, args, below, meth, c, D, A, Q⟩ := E
  obtain ⟨hx, hb, hml, hown, hts, hK, hN, hA, hR, hGl, hGd⟩ := F
  intro H locs ls hP hD hS hl
  exact lv_if_ne hx hb d ht (fun c9 => h1 c9 H locs ls hP hD hS hl) (fun c9 => h2 c9 H locs ls hP hD hS hl)
theorem z_if_lt {x : Int32} {off : Int} (tgt : Nat) (F : ZF E N cc own Ts rm G) (d : decode cc pc = .ok (.ifCond .lt off, 3)) (ht : (pc : Int) + off = (tgt : Int)) (h1 : x < 0 → Z E N k n w lv tgt st) (h2 : ¬ x < 0 → Z E N k n w lv (pc + 3) st) : Z E N k n w lv pc (.int x :: st) := by
  obtain ⟨p, l, e, R, s, m, args, below, meth, c, D, A, Q⟩ := E
  obtain ⟨hx, hb, hml, hown, hts, hK, hN, hA, hR, hGl, hGd⟩ := F
  intro H locs ls hP hD hS hl
  exact lv_if_lt hx hb d ht (fun c9 => h1 c9 H locs ls hP hD hS hl) (fun c9 => h2 c9 H locs ls hP hD hS hl)
theorem z_if_ge {x : Int32} {off : Int} (tgt : Nat) (F : ZF E N cc own Ts rm G) (d : decode cc pc = .ok (.ifCond .ge off, 3)) (ht : (pc : Int) + off = (tgt : Int)) (h1 : 0 ≤ x → Z E N k n w lv tgt st) (h2 : ¬ 0 ≤ x → Z E N k n w lv (pc + 3) st) : Z E N k n w lv pc (.int x :: st) := by
  obtain ⟨p, l, e, R, s, m, args, below, meth, c, D, A, Q⟩ := E
  obtain ⟨hx, hb, hml, hown, hts, hK, hN, hA, hR, hGl, hGd⟩ := F
  intro H locs ls hP hD hS hl
  exact lv_if_ge hx hb d ht (fun c9 => h1 c9 H locs ls hP hD hS hl) (fun c9 => h2 c9 H locs ls hP hD hS hl)
theorem z_if_gt {x : Int32} {off : Int} (tgt : Nat) (F : ZF E N cc own Ts rm G) (d : decode cc pc = .ok (.ifCond .gt off, 3)) (ht : (pc : Int) + off = (tgt : Int)) (h1 : 0 < x → Z E N k n w lv tgt st) (h2 : ¬ 0 < x → Z E N k n w lv (pc + 3) st) : Z E N k n w lv pc (.int x :: st) := by
  obtain ⟨p, l, e, R, s, m, args, below, meth, c, D, A, Q⟩ := E
  obtain ⟨hx, hb, hml, hown, hts, hK, hN, hA, hR, hGl, hGd⟩ := F
  intro H locs ls hP hD hS hl
  exact lv_if_gt hx hb d ht (fun c9 => h1 c9 H locs ls hP hD hS hl) (fun c9 => h2 c9 H locs ls hP hD hS hl)
theorem z_if_le {x : Int32} {off : Int} (tgt : Nat) (F : ZF E N cc own Ts rm G) (d : decode cc pc = .ok (.ifCond .le off, 3)) (ht : (pc : Int) + off = (tgt : Int)) (h1 : x ≤ 0 → Z E N k n w lv tgt st) (h2 : ¬ x ≤ 0 → Z E N k n w lv (pc + 3) st) : Z E N k n w lv pc (.int x :: st) := by
  obtain ⟨p, l, e, R, s, m, args, below, meth, c, D, A, Q⟩ := E
  obtain ⟨hx, hb, hml, hown, hts, hK, hN, hA, hR, hGl, hGd⟩ := F
  intro H locs ls hP hD hS hl
  exact lv_if_le hx hb d ht (fun c9 => h1 c9 H locs ls hP hD hS hl) (fun c9 => h2 c9 H locs ls hP hD hS hl)
theorem z_icmp_eq {x y : Int32} {off : Int} (tgt : Nat) (F : ZF E N cc own Ts rm G) (d : decode cc pc = .ok (.if_icmp .eq off, 3)) (ht : (pc : Int) + off = (tgt : Int)) (h1 : x = y → Z E N k n w lv tgt st) (h2 : ¬ x = y → Z E N k n w lv (pc + 3) st) : Z E N k n w lv pc (.int y :: .int x :: st) := by
  obtain ⟨p, l, e, R, s, m, args, below, meth, c, D, A, Q⟩ := E
  obtain ⟨hx, hb, hml, hown, hts, hK, hN, hA, hR, hGl, hGd⟩ := F
  intro H locs ls hP hD hS hl
  exact lv_icmp_eq hx hb d ht (fun c9 => h1 c9 H locs ls hP hD hS hl) (fun c9 => h2 c9 H locs ls hP hD hS hl)
theorem z_icmp_ne {x y : Int32} {off : Int} (tgt : Nat) (F : ZF E N cc own Ts rm G) (d : decode cc pc = .ok (.if_icmp .ne off, 3)) (ht : (pc : Int) + off = (tgt : Int)) (h1 : ¬ x = y → Z E N k n w lv tgt st) (h2 : x = y → Z E N k n w lv (pc + 3) st) : Z E N k n w lv pc (.int y :: .int x :: st) := by
  obtain ⟨p, l, e, R, s, m, args, below, meth, c, D, A, Q⟩ := E
  obtain ⟨hx, hb, hml, hown, hts, hK, hN, hA, hR, hGl, hGd⟩ := F
  intro H locs ls hP hD hS hl
  exact lv_icmp_ne hx hb d ht (fun c9 => h1 c9 H locs ls hP hD hS hl) (fun c9 => h2 c9 H locs ls hP hD hS hl)
theorem z_icmp_lt {x y : Int32} {off : Int} (tgt : Nat) (F : ZF E N cc own Ts rm G) (d : decode cc pc = .ok (.if_icmp .lt off, 3)) (ht : (pc : Int) + off = (tgt : Int)) (h1 : x < y → Z E N k n w lv tgt st) (h2 : ¬ x < y → Z E N k n w lv (pc + 3) st) : Z E N k n w lv pc (.int y :: .int x :: st) := by
  obtain ⟨p, l, e, R, s, m, args, below, meth, c, D, A, Q⟩ := E
  obtain ⟨hx, hb, hml, hown, hts, hK, hN, hA, hR, hGl, hGd⟩ := F
  intro H locs ls hP hD hS hl
  exact lv_icmp_lt hx hb d ht (fun c9 => h1 c9 H locs ls hP hD hS hl) (fun c9 => h2 c9 H locs ls hP hD hS hl)
theorem z_icmp_ge {x y : Int32} {off : Int} (tgt : Nat) (F : ZF E N cc own Ts rm G) (d : decode cc pc = .ok (.if_icmp .ge off, 3)) (ht : (pc : Int) + off = (tgt : Int)) (h1 : y ≤ x → Z E N k n w lv tgt st) (h2 : ¬ y ≤ x → Z E N k n w lv (pc + 3) st) : Z E N k n w lv pc (.int y :: .int x :: st) := by
  obtain ⟨p, l, e, R, s, m, args, below, meth, c, D, A, Q⟩ := E
  obtain ⟨hx, hb, hml, hown, hts, hK, hN, hA, hR, hGl, hGd⟩ := F
  intro H locs ls hP hD hS hl
  exact lv_icmp_ge hx hb d ht (fun c9 => h1 c9 H locs ls hP hD hS hl) (fun c9 => h2 c9 H locs ls hP hD hS hl)
theorem z_icmp_gt {x y : Int32} {off : Int} (tgt : Nat) (F : ZF E N cc own Ts rm G) (d : decode cc pc = .ok (.if_icmp .gt off, 3)) (ht : (pc : Int) + off = (tgt : Int)) (h1 : y < x → Z E N k n w lv tgt st) (h2 : ¬ y < x → Z E N k n w lv (pc + 3) st) : Z E N k n w lv pc (.int y :: .int x :: st) := by
  obtain ⟨p, l, e, R, s, m, args, below, meth, c, D, A, Q⟩ := E
  obtain ⟨hx, hb, hml, hown, hts, hK, hN, hA, hR, hGl, hGd⟩ := F
  intro H locs ls hP hD hS hl
  exact lv_icmp_gt hx hb d ht (fun c9 => h1 c9 H locs ls hP hD hS hl) (fun c9 => h2 c9 H locs ls hP hD hS hl)
theorem z_icmp_le {x y : Int32} {off : Int} (tgt : Nat) (F : ZF E N cc own Ts rm G) (d : decode cc pc = .ok (.if_icmp .le off, 3)) (ht : (pc : Int) + off = (tgt : Int)) (h1 : x ≤ y → Z E N k n w lv tgt st) (h2 : ¬ x ≤ y → Z E N k n w lv (pc + 3) st) : Z E N k n w lv pc (.int y :: .int x :: st) := by
  obtain ⟨p, l, e, R, s, m, args, below, meth, c, D, A, Q⟩ := E
  obtain ⟨hx, hb, hml, hown, hts, hK, hN, hA, hR, hGl, hGd⟩ := F
  intro H locs ls hP hD hS hl
  exact lv_icmp_le hx hb d ht (fun c9 => h1 c9 H locs ls hP hD hS hl) (fun c9 => h2 c9 H locs ls hP hD hS hl)
theorem z_goto {off : Int} (tgt : Nat) (F : ZF E N cc own Ts rm G) (d : decode cc pc = .ok (.goto off, 3)) (ht : (pc : Int) + off = (tgt : Int)) (h : Z E N k n w lv tgt st) : Z E N k n w lv pc st := by
  obtain ⟨p, l, e, R, s, m, args, below, meth, c, D, A, Q⟩ := E
  obtain ⟨hx, hb, hml, hown, hts, hK, hN, hA, hR, hGl, hGd⟩ := F
  intro H locs ls hP hD hS hl
  exact lv_goto hx hb d ht (h H locs ls hP hD hS hl)
theorem z_tableOut {dflt lo hi : Int} {offs : Array Int} {len : Nat} {x : Int32} (tgt : Nat) (F : ZF E N cc own Ts rm G) (d : decode cc pc = .ok (.tableswitch dflt lo hi offs, len)) (hv : x.toInt < lo ∨ hi < x.toInt) (ht : (pc : Int) + dflt = (tgt : Int)) (h : Z E N k n w lv tgt st) : Z E N k n w lv pc (.int x :: st) := by
  obtain ⟨p, l, e, R, s, m, args, below, meth, c, D, A, Q⟩ := E
  obtain ⟨hx, hb, hml, hown, hts, hK, hN, hA, hR, hGl, hGd⟩ := F
  intro H locs ls hP hD hS hl
  exact lv_tableOut hx hb d hv ht (h H locs ls hP hD hS hl)
theorem z_tableIn {dflt lo hi : Int} {offs : Array Int} {len : Nat} {x : Int32} {off : Int} (tgt : Nat) (F : ZF E N cc own Ts rm G) (d : decode cc pc = .ok (.tableswitch dflt lo hi offs, len)) (h1 : ¬ x.toInt < lo) (h2 : ¬ hi < x.toInt) (ho : offs[(x.toInt - lo).toNat]? = some off) (ht : (pc : Int) + off = (tgt : Int)) (h : Z E N k n w lv tgt st) : Z E N k n w lv pc (.int x :: st) := by
  obtain ⟨p, l, e, R, s, m, args, below, meth, c, D, A, Q⟩ := E
  obtain ⟨hx, hb, hml, hown, hts, hK, hN, hA, hR, hGl, hGd⟩ := F
  intro H locs ls hP hD hS hl
  exact lv_tableIn hx hb d h1 h2 ho ht (h H locs ls hP hD hS hl)
theorem z_lookup {dflt : Int} {ps : Array (Int × Int)} {len : Nat} {x : Int32} {off : Int} (tgt : Nat) (F : ZF E N cc own Ts rm G) (d : decode cc pc = .ok (.lookupswitch dflt ps, len)) (hp : (ps.toList.zip (ps.toList.drop 1)).all (fun (a, next) => a.1 < next.1) = true) (ho : Op.lookupswitch.offset ps.toList dflt x.toInt = off) (ht : (pc : Int) + off = (tgt : Int)) (h : Z E N k n w lv tgt st) : Z E N k n w lv pc (.int x :: st) := by
  obtain ⟨p, l, e, R, s, m, args, below, meth, c, D, A, Q⟩ := E
  obtain ⟨hx, hb, hml, hown, hts, hK, hN, hA, hR, hGl, hGd⟩ := F
  intro H locs ls hP hD hS hl
  exact lv_lookup hx hb d hp ho ht (h H locs ls hP hD hS hl)
theorem z_topi {x : Int32} (h : ∀ y : Int32, y = x → Z E N k n w lv pc (.int y :: st)) : Z E N k n w lv pc (.int x :: st) := h x rfl
theorem z_topl {x : Int64} (h : ∀ y : Int64, y = x → Z E N k n w lv pc (.long y :: st)) : Z E N k n w lv pc (.long x :: st) := h x rfl
theorem z_lv {lv' : List (Nat × Value)} (ks : List Nat) (hv : lv_pick lv ks = lv') (h : Z E N k n w lv' pc st) : Z E N k n w lv pc st := by
  obtain ⟨p, l, e, R, s, m, args, below, meth, c, D, A, Q⟩ := E
  intro H locs ls hP hD hS hl
  exact h H locs ls hP hD hS (lv_sub hl ks hv)
theorem z_w {w' : va_W} (e : w = w') (h : Z E N k n w' lv pc st) : Z E N k n w lv pc st := by rw [e]; exact h
theorem z_get {C : String} {T : u_T} {M ci i : Nat} {ref : String} {a : Nat} {fs : List Value} {v : Value} (F : ZF E N cc own Ts rm G) (hin : ∀ x ∈ u_ws C T M, x ∈ Ts) (q0 : Nat) (he : w[q0]? = some (a, .inr (ci, fs))) (hc : vwCl[ci]? = some (C, T, M)) (j : Nat) (hj : j < M) (hlink : ZW E (.fieldLink own i ref (T j).2.1 (T j).2.2.1)) (hr : (T j).1 = ref) (hv : fs[j]? = some v) (d : decode cc pc = .ok (.getfield i, 3)) (h : Z E N k n w lv (pc + 3) (v :: st)) : Z E N k n w lv pc (.ref a :: st) := by
  obtain ⟨p, l, e, R, s, m, args, below, meth, c, D, A, Q⟩ := E
  obtain ⟨hx, hb, hml, hown, hts, hK, hN, hA, hR, hGl, hGd⟩ := F
  intro H locs ls hP hD hS hl
  subst hr
  exact va_get hx hb hts hin hown hK hP q0 he hc j hj hlink (fun _ h9 => h9) hv d (h H locs ls hP hD hS hl)
theorem z_put {C : String} {T : u_T} {M ci i : Nat} {ref : String} {a : Nat} {fs : List Value} {v : Value} {ty : FieldType} (w' : va_W) (F : ZF E N cc own Ts rm G) (hin : ∀ x ∈ u_ws C T M, x ∈ Ts) (ty0 : Nat → FieldType) (hty : ∀ k, k < M → parseFieldDescriptor (T k).2.2.1 = some (ty0 k)) (hnm : ∀ a, a < M → ∀ b, b < M → a ≠ b → (T a).2.1 ≠ (T b).2.1) (q0 : Nat) (he : w[q0]? = some (a, .inr (ci, fs))) (hc : vwCl[ci]? = some (C, T, M)) (j : Nat) (hj : j < M) (hlink : ZW E (.fieldLink own i ref (T j).2.1 (T j).2.2.1)) (hr : (T j).1 = ref) (hfin : (T j).2.2.2 = false) (he0 : ty0 j = ty) (hn : narrow ty v = v) (hfit : fits ty v = true) (hl9 : j < fs.length) (hw : w.set q0 (a, .inr (ci, fs.set j v)) = w') (d : decode cc pc = .ok (.putfield i, 3)) (h : Z E N k n w' lv (pc + 3) st) : Z E N k n w lv pc (v :: .ref a :: st) := by
  obtain ⟨p, l, e, R, s, m, args, below, meth, c, D, A, Q⟩ := E
  obtain ⟨hx, hb, hml, hown, hts, hK, hN, hA, hR, hGl, hGd⟩ := F
  intro H locs ls hP hD hS hl
  subst hr
  subst hw
  exact va_put hx hb hts hin ty0 hty hnm hown hK hP hD hS q0 he hc j hj hlink (fun _ h9 => h9) hfin (by rw [hty j hj, he0]) hn hfit hl9 d (fun H1 locs1 hP1 hD1 hS1 => h H1 locs1 ls hP1 hD1 hS1 hl)
theorem z_iald {a M : Nat} {f : Nat → Int32} {i : Int32} (F : ZF E N cc own Ts rm G) (q0 : Nat) (ha : w[q0]? = some (a, .inl (G.2.2.1, M, .inl f))) (hi : vp_in i M) (d : decode cc pc = .ok (.iaload, 1)) (h : Z E N k n w lv (pc + 1) (.int (f i.toNatClampNeg) :: st)) : Z E N k n w lv pc (.int i :: .ref a :: st) := by
  obtain ⟨p, l, e, R, s, m, args, below, meth, c, D, A, Q⟩ := E
  obtain ⟨hx, hb, hml, hown, hts, hK, hN, hA, hR, hGl, hGd⟩ := F
  intro H locs ls hP hD hS hl
  exact va_iald hx hb hK hP q0 0 ha rfl hi d (h H locs ls hP hD hS hl)
theorem z_zald {a M : Nat} {f : Nat → Int32} {i : Int32} (F : ZF E N cc own Ts rm G) (q0 : Nat) (ha : w[q0]? = some (a, .inl (G.2.2.2, M, .inl f))) (hi : vp_in i M) (d : decode cc pc = .ok (.baload, 1)) (h : Z E N k n w lv (pc + 1) (.int (f i.toNatClampNeg) :: st)) : Z E N k n w lv pc (.int i :: .ref a :: st) := by
  obtain ⟨p, l, e, R, s, m, args, below, meth, c, D, A, Q⟩ := E
  obtain ⟨hx, hb, hml, hown, hts, hK, hN, hA, hR, hGl, hGd⟩ := F
  intro H locs ls hP hD hS hl
  exact va_zald hx hb hK hP q0 1 ha rfl hi d (h H locs ls hP hD hS hl)
theorem z_iast {a M : Nat} {f : Nat → Int32} {i x : Int32} (w' : va_W) (F : ZF E N cc own Ts rm G) (q0 : Nat) (ha : w[q0]? = some (a, .inl (G.2.2.1, M, .inl f))) (hi : vp_in i M) (hw : w.set q0 (a, .inl (G.2.2.1, M, .inl (upd f i.toNatClampNeg x))) = w') (d : decode cc pc = .ok (.iastore, 1)) (h : Z E N k n w' lv (pc + 1) st) : Z E N k n w lv pc (.int x :: .int i :: .ref a :: st) := by
  obtain ⟨p, l, e, R, s, m, args, below, meth, c, D, A, Q⟩ := E
  obtain ⟨hx, hb, hml, hown, hts, hK, hN, hA, hR, hGl, hGd⟩ := F
  intro H locs ls hP hD hS hl
  subst hw
  exact va_iast hx hb hK hP hD hS q0 0 ha rfl hi d (fun H1 locs1 hP1 hD1 hS1 => h H1 locs1 ls hP1 hD1 hS1 hl)
theorem z_zast {a M : Nat} {f : Nat → Int32} {i x : Int32} (w' : va_W) (F : ZF E N cc own Ts rm G) (q0 : Nat) (ha : w[q0]? = some (a, .inl (G.2.2.2, M, .inl f))) (hi : vp_in i M) (hx9 : vp_nar .boolean x = x) (hw : w.set q0 (a, .inl (G.2.2.2, M, .inl (upd f i.toNatClampNeg x))) = w') (d : decode cc pc = .ok (.bastore, 1)) (h : Z E N k n w' lv (pc + 1) st) : Z E N k n w lv pc (.int x :: .int i :: .ref a :: st) := by
  obtain ⟨p, l, e, R, s, m, args, below, meth, c, D, A, Q⟩ := E
  obtain ⟨hx, hb, hml, hown, hts, hK, hN, hA, hR, hGl, hGd⟩ := F
  intro H locs ls hP hD hS hl
  subst hw
  refine va_zast hx hb hK hP hD hS q0 1 ha rfl hi d (fun H1 locs1 hP1 hD1 hS1 => ?_)
  rw [hx9] at hP1 hD1
  exact h H1 locs1 ls hP1 hD1 hS1 hl
theorem z_max {i : Nat} {x y : Int32} (F : ZF E N cc own Ts rm G) (h1 : ZW E (.methodLink own i Lib.Math.max.name)) (h2 : ZW E (.static Lib.Math.max.name)) (h3 : ZW E (.initialized "java/lang/Math")) (h4 : ZW E (.code Lib.Math.max.name Lib.Math.max.code 2 (some .int))) (hr : 1 ≤ rm.frames ∧ (st.map fun v => v.category).sum + 13 ≤ rm.locals ∧ k ≤ rm.cells ∧ n ≤ rm.slots) (d : decode cc pc = .ok (.invokestatic i, 3)) (h : Z E N k n w lv (pc + 3) (.int (if x < y then y else x) :: st)) : Z E N k n w lv pc (.int y :: .int x :: st) := by
  obtain ⟨p, l, e, R, s, m, args, below, meth, c, D, A, Q⟩ := E
  obtain ⟨hx, hb, hml, hown, hts, hK, hN, hA, hR, hGl, hGd⟩ := F
  intro H locs ls hP hD hS hl
  subst hR
  exact va_mmax hx hb (hml.trans hl.1.symm) hown h1 h2 h3 h4 hr.1 hr.2.1 hr.2.2.1 hr.2.2.2 d (h H locs ls hP hD hS hl)
theorem z_abs {i : Nat} {x : Int32} (F : ZF E N cc own Ts rm G) (h1 : ZW E (.methodLink own i Lib.Math.abs.name)) (h2 : ZW E (.static Lib.Math.abs.name)) (h3 : ZW E (.initialized "java/lang/Math")) (h4 : ZW E (.code Lib.Math.abs.name Lib.Math.abs.code 1 (some .int))) (hr : 1 ≤ rm.frames ∧ (st.map fun v => v.category).sum + 13 ≤ rm.locals ∧ k ≤ rm.cells ∧ n ≤ rm.slots) (d : decode cc pc = .ok (.invokestatic i, 3)) (h : Z E N k n w lv (pc + 3) (.int (if 0 ≤ x then x else 0 - x) :: st)) : Z E N k n w lv pc (.int x :: st) := by
  obtain ⟨p, l, e, R, s, m, args, below, meth, c, D, A, Q⟩ := E
  obtain ⟨hx, hb, hml, hown, hts, hK, hN, hA, hR, hGl, hGd⟩ := F
  intro H locs ls hP hD hS hl
  subst hR
  exact va_mabs hx hb (hml.trans hl.1.symm) hown h1 h2 h3 h4 hr.1 hr.2.1 hr.2.2.1 hr.2.2.2 d (h H locs ls hP hD hS hl)
theorem z_copy {a a0 n0 n1 i : Nat} {f g : Nat → Int32} {v : Int32} (M : Nat) (w' : va_W) (F : ZF E N cc own Ts rm G) (h1 : ZW E (.methodLink own i arraycopyName)) (h2 : ZW E (.native arraycopyName)) (h3 : ZW E (.static arraycopyName)) (h4 : ZW E (.initialized "java/lang/System")) (q0 q1 : Nat) (ha0 : w[q0]? = some (a0, .inl (G.2.2.1, n0, .inl f))) (ha1 : w[q1]? = some (a, .inl (G.2.2.1, n1, .inl g))) (hv : v = nI M) (hM : M < 2 ^ 31) (hb0 : M ≤ n0) (hb1 : M ≤ n1) (hr : 1 ≤ rm.frames ∧ (st.map fun v => v.category).sum + (nativeFrameWords "java/lang/System" "arraycopy" 5 + 11) ≤ rm.locals) (hw : w.set q1 (a, .inl (G.2.2.1, n1, .inl (va_cpy f g 0 0 M))) = w') (d : decode cc pc = .ok (.invokestatic i, 3)) (h : Z E N k n w' lv (pc + 3) st) : Z E N k n w lv pc (.int v :: .int 0 :: .ref a :: .int 0 :: .ref a0 :: st) := by
  obtain ⟨p, l, e, R, s, m, args, below, meth, c, D, A, Q⟩ := E
  obtain ⟨hx, hb, hml, hown, hts, hK, hN, hA, hR, hGl, hGd⟩ := F
  intro H locs ls hP hD hS hl
  subst hR
  subst hw
  subst hv
  have hc : (nI M).toNatClampNeg = M := nI_clamp hM
  refine va_copyi hx hb (hml.trans hl.1.symm) hown h1 h2 h3 h4 hK hP hD hS q0 q1 0 0 ha0 ha1 rfl rfl rfl (by decide) (by decide) (nI_pos hM) (by rw [hc]; exact Nat.le_trans (Nat.le_of_eq (Nat.zero_add M)) hb0) (by rw [hc]; exact Nat.le_trans (Nat.le_of_eq (Nat.zero_add M)) hb1) (fun _ _ => rfl) hr.1 hr.2 d (fun H1 locs1 hP1 hD1 hS1 => ?_)
  rw [hc] at hP1 hD1
  exact h H1 locs1 ls hP1 hD1 hS1 hl
theorem z_fm {α β : Type} {f : α → Option β} {l : List α} {l' : List β} (h : l.map f = l'.map some) : l.filterMap f = l' := by
  have e : l.filterMap f = (l.map f).filterMap id := by rw [List.filterMap_map]; rfl
  rw [e, h, List.filterMap_map]
  exact List.filterMap_some
def zPc (G : ZG) (av : List Value) (w : va_W) (sz : Nat) : Array Value → State → Prop := va_Pc av (fun U => U.heap.size = sz ∧ va_P G.2.1 vwCl w U.heap ∧ va_K G.2.1 vwCl (zty G) U ∧ zN U ∧ va_D (fun _ => True) w)
theorem zPc_blind (G : ZG) (av : List Value) (w : va_W) (sz : Nat) : FrameBlind (zPc G av w sz) := fun a U g mk q => by
  obtain ⟨q0, q1, qP, qK, qN, qD⟩ := q
  exact ⟨q0, q1, qP, va_K.moved (u := U) (U := U.calling g mk a) (Vm.Alike.refl U.vm) qK, zN.same rfl qN, qD⟩
def zB (G : ZG) (A : Nat → Prop) (w : va_W) (t : State) : Prop := va_P G.2.1 vwCl w t.heap ∧ va_D A w
/-- a contract: from the world w, with the arguments av, the method y answers r and leaves the world wf u with Q r u; it makes nothing -/
def ZMi {S : Type} (G : ZG) (y : MethodName) (ws : List Cond) (rm : Room) (av : List Value) (w : va_W) (wf : S → va_W) (Q : Int32 → S → Prop) : Prop := ∀ sz : Nat, Met G.1 y ws rm (zPc G av w sz) (va_Qi Q (fun u t => zB G (va_A w sz) (wf u) t) (va_A w sz)) 0 0 (va_A w sz)
def ZMl {S : Type} (G : ZG) (y : MethodName) (ws : List Cond) (rm : Room) (av : List Value) (w : va_W) (wf : S → va_W) (Q : Int64 → S → Prop) : Prop := ∀ sz : Nat, Met G.1 y ws rm (zPc G av w sz) (va_Ql Q (fun u t => zB G (va_A w sz) (wf u) t) (va_A w sz)) 0 0 (va_A w sz)
def ZMv {S : Type} (G : ZG) (y : MethodName) (ws : List Cond) (rm : Room) (av : List Value) (w : va_W) (wf : S → va_W) (Q : S → Prop) : Prop := ∀ sz : Nat, Met G.1 y ws rm (zPc G av w sz) (va_Qv Q (fun u t => zB G (va_A w sz) (wf u) t) (va_A w sz)) 0 0 (va_A w sz)
def ZMr {S : Type} (G : ZG) (y : MethodName) (ws : List Cond) (rm : Room) (av : List Value) (w : va_W) (wf : S → va_W) (Q : Nat → S → Prop) : Prop := ∀ sz : Nat, Met G.1 y ws rm (zPc G av w sz) (va_Qr (fun _ => True) (fun u a t => Q a u ∧ zB G (va_A w sz) (wf u) t) (va_A w sz)) 0 0 (va_A w sz)
theorem z_ofi {S : Type} {y : MethodName} {ws ws' : List Cond} {av : List Value} {wf : S → va_W} {Q : Int32 → S → Prop} (hy : plainName y.cls = true) (hw : ws = Cond.code y cc N (some .int) :: ws') (hlen : (lg_sl av).length ≤ N) (hlv : lv_args 0 av = lv)
    (body : ∀ E : ZE, ZF E N cc y.cls ws rm G → (∀ (v : Int32) (u : S) (lv : List (Nat × Value)) (pc : Nat), Q v u → decode cc pc = .ok (.ireturn, 1) → Z E N 0 0 (wf u) lv pc [.int v]) → Z E N 0 0 w lv 0 []) : ZMi G y ws rm av w wf Q := by
  intro sz
  refine Met.ofW (cc := cc) (maxL := N) (ret := some .int) hy hw ?_
  intro p e s m args below meth c s₁ B hml hv
  obtain ⟨rfl, hsz, hP, hK, hN, hD0⟩ := hv
  have hx := B.exec
  have hb := B.bytes
  have hr := B.returns
  have hts := atoms_spec (ws := ws) B.pre
  have hown : s.vm.findClass y.cls = some m.cls := findClass_of_methodNamed B.named
  have hlocks := B.notSynchronized
  subst hsz
  have hD := hD0.self (sz := s.heap.size)
  have hA : ∀ q : Nat, s.heap.size ≤ q → va_A w s.heap.size q := fun q h => Or.inr h
  have hl := lv_entry av (n := N) hlen
  rw [hlv] at hl
  rw [lg_entry_eq]
  refine body (p, G.1, e, rm, s, m, av.toArray, below, meth, c, G.2.1, va_A w s.heap.size, _) ⟨hx, hb, hml, hown, hts, hK, hN, hA, rfl, rfl, rfl⟩ ?_ s.heap [] _ hP hD va_S.rf hl
  intro v u lv9 pc9 hq d H locs ls hP9 hD9 hS9 hl9
  exact W.iret (v := v) hx hb hr (fun t ht hW => ⟨⟨v, u, rfl, hq, by rw [ht]; exact hP9, hD9⟩, hS9.F ht⟩) hS9.2.2 d hlocks
theorem z_ofz {S : Type} {y : MethodName} {ws ws' : List Cond} {av : List Value} {wf : S → va_W} {Q : Int32 → S → Prop} (hy : plainName y.cls = true) (hw : ws = Cond.code y cc N (some .boolean) :: ws') (hlen : (lg_sl av).length ≤ N) (hlv : lv_args 0 av = lv)
    (body : ∀ E : ZE, ZF E N cc y.cls ws rm G → (∀ (v : Int32) (u : S) (lv : List (Nat × Value)) (pc : Nat), Q v u → decode cc pc = .ok (.ireturn, 1) → narrow .boolean (.int v) = .int v → Z E N 0 0 (wf u) lv pc [.int v]) → Z E N 0 0 w lv 0 []) : ZMi G y ws rm av w wf Q := by
  intro sz
  refine Met.ofW (cc := cc) (maxL := N) (ret := some .boolean) hy hw ?_
  intro p e s m args below meth c s₁ B hml hv
  obtain ⟨rfl, hsz, hP, hK, hN, hD0⟩ := hv
  have hx := B.exec
  have hb := B.bytes
  have hr := B.returns
  have hts := atoms_spec (ws := ws) B.pre
  have hown : s.vm.findClass y.cls = some m.cls := findClass_of_methodNamed B.named
  have hlocks := B.notSynchronized
  subst hsz
  have hD := hD0.self (sz := s.heap.size)
  have hA : ∀ q : Nat, s.heap.size ≤ q → va_A w s.heap.size q := fun q h => Or.inr h
  have hl := lv_entry av (n := N) hlen
  rw [hlv] at hl
  rw [lg_entry_eq]
  refine body (p, G.1, e, rm, s, m, av.toArray, below, meth, c, G.2.1, va_A w s.heap.size, _) ⟨hx, hb, hml, hown, hts, hK, hN, hA, rfl, rfl, rfl⟩ ?_ s.heap [] _ hP hD va_S.rf hl
  intro v u lv9 pc9 hq d hnar H locs ls hP9 hD9 hS9 hl9
  exact W.zret (v := v) (ty := .boolean) hx hb hr hnar (fun t ht hW => ⟨⟨v, u, rfl, hq, by rw [ht]; exact hP9, hD9⟩, hS9.F ht⟩) hS9.2.2 d hlocks
theorem z_ofl {S : Type} {y : MethodName} {ws ws' : List Cond} {av : List Value} {wf : S → va_W} {Q : Int64 → S → Prop} (hy : plainName y.cls = true) (hw : ws = Cond.code y cc N (some .long) :: ws') (hlen : (lg_sl av).length ≤ N) (hlv : lv_args 0 av = lv)
    (body : ∀ E : ZE, ZF E N cc y.cls ws rm G → (∀ (v : Int64) (u : S) (lv : List (Nat × Value)) (pc : Nat), Q v u → decode cc pc = .ok (.lreturn, 1) → Z E N 0 0 (wf u) lv pc [.long v]) → Z E N 0 0 w lv 0 []) : ZMl G y ws rm av w wf Q := by
  intro sz
  refine Met.ofW (cc := cc) (maxL := N) (ret := some .long) hy hw ?_
  intro p e s m args below meth c s₁ B hml hv
  obtain ⟨rfl, hsz, hP, hK, hN, hD0⟩ := hv
  have hx := B.exec
  have hb := B.bytes
  have hr := B.returns
  have hts := atoms_spec (ws := ws) B.pre
  have hown : s.vm.findClass y.cls = some m.cls := findClass_of_methodNamed B.named
  have hlocks := B.notSynchronized
  subst hsz
  have hD := hD0.self (sz := s.heap.size)
  have hA : ∀ q : Nat, s.heap.size ≤ q → va_A w s.heap.size q := fun q h => Or.inr h
  have hl := lv_entry av (n := N) hlen
  rw [hlv] at hl
  rw [lg_entry_eq]
  refine body (p, G.1, e, rm, s, m, av.toArray, below, meth, c, G.2.1, va_A w s.heap.size, _) ⟨hx, hb, hml, hown, hts, hK, hN, hA, rfl, rfl, rfl⟩ ?_ s.heap [] _ hP hD va_S.rf hl
  intro v u lv9 pc9 hq d H locs ls hP9 hD9 hS9 hl9
  exact W.lret (v := v) hx hb hr (fun t ht hW => ⟨⟨v, u, rfl, hq, by rw [ht]; exact hP9, hD9⟩, hS9.F ht⟩) hS9.2.2 d hlocks
theorem z_ofv {S : Type} {y : MethodName} {ws ws' : List Cond} {av : List Value} {wf : S → va_W} {Q : S → Prop} (hy : plainName y.cls = true) (hw : ws = Cond.code y cc N none :: ws') (hlen : (lg_sl av).length ≤ N) (hlv : lv_args 0 av = lv)
    (body : ∀ E : ZE, ZF E N cc y.cls ws rm G → (∀ (u : S) (lv : List (Nat × Value)) (pc : Nat), Q u → decode cc pc = .ok (.return_, 1) → Z E N 0 0 (wf u) lv pc []) → Z E N 0 0 w lv 0 []) : ZMv G y ws rm av w wf Q := by
  intro sz
  refine Met.ofW (cc := cc) (maxL := N) (ret := none) hy hw ?_
  intro p e s m args below meth c s₁ B hml hv
  obtain ⟨rfl, hsz, hP, hK, hN, hD0⟩ := hv
  have hx := B.exec
  have hb := B.bytes
  have hr := B.returns
  have hts := atoms_spec (ws := ws) B.pre
  have hown : s.vm.findClass y.cls = some m.cls := findClass_of_methodNamed B.named
  have hlocks := B.notSynchronized
  subst hsz
  have hD := hD0.self (sz := s.heap.size)
  have hA : ∀ q : Nat, s.heap.size ≤ q → va_A w s.heap.size q := fun q h => Or.inr h
  have hl := lv_entry av (n := N) hlen
  rw [hlv] at hl
  rw [lg_entry_eq]
  refine body (p, G.1, e, rm, s, m, av.toArray, below, meth, c, G.2.1, va_A w s.heap.size, _) ⟨hx, hb, hml, hown, hts, hK, hN, hA, rfl, rfl, rfl⟩ ?_ s.heap [] _ hP hD va_S.rf hl
  intro u lv9 pc9 hq d H locs ls hP9 hD9 hS9 hl9
  exact W.vret hx hb hr (fun t ht hW => ⟨⟨u, rfl, hq, by rw [ht]; exact hP9, hD9⟩, hS9.F ht⟩) hS9.2.2 d hlocks
theorem z_ofr {S : Type} {y : MethodName} {ws ws' : List Cond} {av : List Value} {wf : S → va_W} {Q : Nat → S → Prop} {cn : String} (hy : plainName y.cls = true) (hw : ws = Cond.code y cc N (some (.object cn)) :: ws') (hlen : (lg_sl av).length ≤ N) (hlv : lv_args 0 av = lv)
    (body : ∀ E : ZE, ZF E N cc y.cls ws rm G → (∀ (v : Nat) (u : S) (lv : List (Nat × Value)) (pc : Nat), Q v u → decode cc pc = .ok (.areturn, 1) → Z E N 0 0 (wf u) lv pc [.ref v]) → Z E N 0 0 w lv 0 []) : ZMr G y ws rm av w wf Q := by
  intro sz
  refine Met.ofW (cc := cc) (maxL := N) (ret := some (.object cn)) hy hw ?_
  intro p e s m args below meth c s₁ B hml hv
  obtain ⟨rfl, hsz, hP, hK, hN, hD0⟩ := hv
  have hx := B.exec
  have hb := B.bytes
  have hr := B.returns
  have hts := atoms_spec (ws := ws) B.pre
  have hown : s.vm.findClass y.cls = some m.cls := findClass_of_methodNamed B.named
  have hlocks := B.notSynchronized
  subst hsz
  have hD := hD0.self (sz := s.heap.size)
  have hA : ∀ q : Nat, s.heap.size ≤ q → va_A w s.heap.size q := fun q h => Or.inr h
  have hl := lv_entry av (n := N) hlen
  rw [hlv] at hl
  rw [lg_entry_eq]
  refine body (p, G.1, e, rm, s, m, av.toArray, below, meth, c, G.2.1, va_A w s.heap.size, _) ⟨hx, hb, hml, hown, hts, hK, hN, hA, rfl, rfl, rfl⟩ ?_ s.heap [] _ hP hD va_S.rf hl
  intro v u lv9 pc9 hq d H locs ls hP9 hD9 hS9 hl9
  exact W.aret (v := .ref v) hx hb hr (Or.inl ⟨_, rfl⟩) (Or.inr ⟨_, rfl⟩) (fun t ht hW => ⟨⟨u, v, rfl, trivial, hq, by rw [ht]; exact hP9, hD9⟩, hS9.F ht⟩) hS9.2.2 d hlocks
theorem z_callVi {S : Type} {y : MethodName} {ws ws' : List Cond} {bytes : ByteArray} {maxL i : Nat} {ret : Option FieldType} {rm' : Room} {As rest : List Value} {wc wr : va_W} {wf : S → va_W} {Q : Int32 → S → Prop} {C : String} {T : u_T} {M0 b ci : Nat} {fs : List Value} (w' : S → va_W) (F : ZF E N cc own Ts rm G) (hM : ZMi G y ws rm' (.ref b :: As) wc wf Q) (hT : GoodIn Ts (wsV own i C y ws)) (hw : ws = Cond.code y bytes maxL ret :: ws') (hd : y.cls = C ∧ y.cls ≠ "java/lang/invoke/MethodHandle" ∧ y.cls ≠ "java/lang/invoke/VarHandle" ∧ (parseMethodDescriptor y.desc).map (fun d => d.parameters.length) = some As.length) (hz : rm'.cells = 0 ∧ rm'.slots = 0 ∧ rm'.frames + 1 ≤ rm.frames ∧ 8 + (maxL + 11) + rm'.locals ≤ rm.locals ∧ k ≤ rm.cells ∧ n ≤ rm.slots) (q0 : Nat) (he : w[q0]? = some (b, .inr (ci, fs))) (hc : vwCl[ci]? = some (C, T, M0)) (isC isR perm : List Nat) (hC : isC.map (fun i => w[i]?) = wc.map some) (hR9 : isR.map (fun i => w[i]?) = wr.map some) (hn : (va_nd isC && va_nd isR && va_nd perm && isR.all (fun i => !isC.contains i)) = true) (hp : ∀ u, perm.map (fun i => (wr ++ wf u)[i]?) = (w' u).map some) (hst : st = As.reverse ++ .ref b :: rest) (hrest : (rest.map fun v => v.category).sum ≤ 8) (d : decode cc pc = .ok (.invokevirtual i, 3)) (h : ∀ (r : Int32) (u : S), Q r u → Z E N k n (w' u) lv (pc + 3) (.int r :: rest)) : Z E N k n w lv pc st := by
  obtain ⟨p, l, e, R, s, m, args, below, meth, c, D, A, Qz⟩ := E
  obtain ⟨hx, hb, hml, hown, hts, hK, hN, hA, hR, hGl, hGd⟩ := F
  subst hR hGl hGd
  simp only [Bool.and_eq_true] at hn
  obtain ⟨⟨⟨hn1, hn2⟩, hn3⟩, hn4⟩ := hn
  have hdis : ∀ i ∈ isR, i ∉ isC := fun i hi => by
    have := List.all_eq_true.mp hn4 i hi
    simpa using this
  intro H locs ls hP hD hS hl
  have hPc := hP.sub isC (z_fm hC)
  have hDc := hD.sub isC hn1 hC
  have hFc := va_free (wc := wc) hD hS hA isC hC
  refine va_calli (va_runV (As := As) (rest := rest) ⟨hx, hb, hml, hown, hts⟩ (hM H.size) (cwV As.length hts hT hw hz.1 hz.2.1 hd ⟨hz.2.2.1, hz.2.2.2.1⟩) ⟨zPc_blind G _ _ _, va_recv hK hP hc he, fun U hU hW => ⟨rfl, by rw [hU], by rw [hU]; exact hPc, va_K.moved hW.alike hK, zN.warm hW hN, hDc.weaken (fun _ _ _ _ => trivial)⟩⟩ rfl rfl hl.1 hst (lv_room hrest) d ⟨hz.2.2.2.2.1, hz.2.2.2.2.2⟩) hS (fun q _ h => hFc q h) hFc (fun r u t H1 locs1 ht hvm hq hB hz1 hk1 hS1 => ?_)
  obtain ⟨hP1, hD1⟩ := hB
  rw [ht] at hP1
  obtain ⟨hP2, hD2⟩ := va_join (wr := wr) (w1 := wf u) hP hD isC isR hC hR9 hn2 hdis hk1 hFc hP1 hD1
  exact h r u hq H1 locs1 ls (hP2.sub perm (z_fm (hp u))) (hD2.sub perm hn3 (hp u)) hS1 hl
theorem z_callVl {S : Type} {y : MethodName} {ws ws' : List Cond} {bytes : ByteArray} {maxL i : Nat} {ret : Option FieldType} {rm' : Room} {As rest : List Value} {wc wr : va_W} {wf : S → va_W} {Q : Int64 → S → Prop} {C : String} {T : u_T} {M0 b ci : Nat} {fs : List Value} (w' : S → va_W) (F : ZF E N cc own Ts rm G) (hM : ZMl G y ws rm' (.ref b :: As) wc wf Q) (hT : GoodIn Ts (wsV own i C y ws)) (hw : ws = Cond.code y bytes maxL ret :: ws') (hd : y.cls = C ∧ y.cls ≠ "java/lang/invoke/MethodHandle" ∧ y.cls ≠ "java/lang/invoke/VarHandle" ∧ (parseMethodDescriptor y.desc).map (fun d => d.parameters.length) = some As.length) (hz : rm'.cells = 0 ∧ rm'.slots = 0 ∧ rm'.frames + 1 ≤ rm.frames ∧ 8 + (maxL + 11) + rm'.locals ≤ rm.locals ∧ k ≤ rm.cells ∧ n ≤ rm.slots) (q0 : Nat) (he : w[q0]? = some (b, .inr (ci, fs))) (hc : vwCl[ci]? = some (C, T, M0)) (isC isR perm : List Nat) (hC : isC.map (fun i => w[i]?) = wc.map some) (hR9 : isR.map (fun i => w[i]?) = wr.map some) (hn : (va_nd isC && va_nd isR && va_nd perm && isR.all (fun i => !isC.contains i)) = true) (hp : ∀ u, perm.map (fun i => (wr ++ wf u)[i]?) = (w' u).map some) (hst : st = As.reverse ++ .ref b :: rest) (hrest : (rest.map fun v => v.category).sum ≤ 8) (d : decode cc pc = .ok (.invokevirtual i, 3)) (h : ∀ (r : Int64) (u : S), Q r u → Z E N k n (w' u) lv (pc + 3) (.long r :: rest)) : Z E N k n w lv pc st := by
  obtain ⟨p, l, e, R, s, m, args, below, meth, c, D, A, Qz⟩ := E
  obtain ⟨hx, hb, hml, hown, hts, hK, hN, hA, hR, hGl, hGd⟩ := F
  subst hR hGl hGd
  simp only [Bool.and_eq_true] at hn
  obtain ⟨⟨⟨hn1, hn2⟩, hn3⟩, hn4⟩ := hn
  have hdis : ∀ i ∈ isR, i ∉ isC := fun i hi => by
    have := List.all_eq_true.mp hn4 i hi
    simpa using this
  intro H locs ls hP hD hS hl
  have hPc := hP.sub isC (z_fm hC)
  have hDc := hD.sub isC hn1 hC
  have hFc := va_free (wc := wc) hD hS hA isC hC
  refine va_calll (va_runV (As := As) (rest := rest) ⟨hx, hb, hml, hown, hts⟩ (hM H.size) (cwV As.length hts hT hw hz.1 hz.2.1 hd ⟨hz.2.2.1, hz.2.2.2.1⟩) ⟨zPc_blind G _ _ _, va_recv hK hP hc he, fun U hU hW => ⟨rfl, by rw [hU], by rw [hU]; exact hPc, va_K.moved hW.alike hK, zN.warm hW hN, hDc.weaken (fun _ _ _ _ => trivial)⟩⟩ rfl rfl hl.1 hst (lv_room hrest) d ⟨hz.2.2.2.2.1, hz.2.2.2.2.2⟩) hS (fun q _ h => hFc q h) hFc (fun r u t H1 locs1 ht hvm hq hB hz1 hk1 hS1 => ?_)
  obtain ⟨hP1, hD1⟩ := hB
  rw [ht] at hP1
  obtain ⟨hP2, hD2⟩ := va_join (wr := wr) (w1 := wf u) hP hD isC isR hC hR9 hn2 hdis hk1 hFc hP1 hD1
  exact h r u hq H1 locs1 ls (hP2.sub perm (z_fm (hp u))) (hD2.sub perm hn3 (hp u)) hS1 hl
theorem z_callVv {S : Type} {y : MethodName} {ws ws' : List Cond} {bytes : ByteArray} {maxL i : Nat} {ret : Option FieldType} {rm' : Room} {As rest : List Value} {wc wr : va_W} {wf : S → va_W} {Q : S → Prop} {C : String} {T : u_T} {M0 b ci : Nat} {fs : List Value} (w' : S → va_W) (F : ZF E N cc own Ts rm G) (hM : ZMv G y ws rm' (.ref b :: As) wc wf Q) (hT : GoodIn Ts (wsV own i C y ws)) (hw : ws = Cond.code y bytes maxL ret :: ws') (hd : y.cls = C ∧ y.cls ≠ "java/lang/invoke/MethodHandle" ∧ y.cls ≠ "java/lang/invoke/VarHandle" ∧ (parseMethodDescriptor y.desc).map (fun d => d.parameters.length) = some As.length) (hz : rm'.cells = 0 ∧ rm'.slots = 0 ∧ rm'.frames + 1 ≤ rm.frames ∧ 8 + (maxL + 11) + rm'.locals ≤ rm.locals ∧ k ≤ rm.cells ∧ n ≤ rm.slots) (q0 : Nat) (he : w[q0]? = some (b, .inr (ci, fs))) (hc : vwCl[ci]? = some (C, T, M0)) (isC isR perm : List Nat) (hC : isC.map (fun i => w[i]?) = wc.map some) (hR9 : isR.map (fun i => w[i]?) = wr.map some) (hn : (va_nd isC && va_nd isR && va_nd perm && isR.all (fun i => !isC.contains i)) = true) (hp : ∀ u, perm.map (fun i => (wr ++ wf u)[i]?) = (w' u).map some) (hst : st = As.reverse ++ .ref b :: rest) (hrest : (rest.map fun v => v.category).sum ≤ 8) (d : decode cc pc = .ok (.invokevirtual i, 3)) (h : ∀ u : S, Q u → Z E N k n (w' u) lv (pc + 3) (rest)) : Z E N k n w lv pc st := by
  obtain ⟨p, l, e, R, s, m, args, below, meth, c, D, A, Qz⟩ := E
  obtain ⟨hx, hb, hml, hown, hts, hK, hN, hA, hR, hGl, hGd⟩ := F
  subst hR hGl hGd
  simp only [Bool.and_eq_true] at hn
  obtain ⟨⟨⟨hn1, hn2⟩, hn3⟩, hn4⟩ := hn
  have hdis : ∀ i ∈ isR, i ∉ isC := fun i hi => by
    have := List.all_eq_true.mp hn4 i hi
    simpa using this
  intro H locs ls hP hD hS hl
  have hPc := hP.sub isC (z_fm hC)
  have hDc := hD.sub isC hn1 hC
  have hFc := va_free (wc := wc) hD hS hA isC hC
  refine va_callv (va_runV (As := As) (rest := rest) ⟨hx, hb, hml, hown, hts⟩ (hM H.size) (cwV As.length hts hT hw hz.1 hz.2.1 hd ⟨hz.2.2.1, hz.2.2.2.1⟩) ⟨zPc_blind G _ _ _, va_recv hK hP hc he, fun U hU hW => ⟨rfl, by rw [hU], by rw [hU]; exact hPc, va_K.moved hW.alike hK, zN.warm hW hN, hDc.weaken (fun _ _ _ _ => trivial)⟩⟩ rfl rfl hl.1 hst (lv_room hrest) d ⟨hz.2.2.2.2.1, hz.2.2.2.2.2⟩) hS (fun q _ h => hFc q h) hFc (fun u t H1 locs1 ht hvm hq hB hz1 hk1 hS1 => ?_)
  obtain ⟨hP1, hD1⟩ := hB
  rw [ht] at hP1
  obtain ⟨hP2, hD2⟩ := va_join (wr := wr) (w1 := wf u) hP hD isC isR hC hR9 hn2 hdis hk1 hFc hP1 hD1
  exact h u hq H1 locs1 ls (hP2.sub perm (z_fm (hp u))) (hD2.sub perm hn3 (hp u)) hS1 hl
theorem z_callVr {S : Type} {y : MethodName} {ws ws' : List Cond} {bytes : ByteArray} {maxL i : Nat} {ret : Option FieldType} {rm' : Room} {As rest : List Value} {wc wr : va_W} {wf : S → va_W} {Q : Nat → S → Prop} {C : String} {T : u_T} {M0 b ci : Nat} {fs : List Value} (w' : S → va_W) (F : ZF E N cc own Ts rm G) (hM : ZMr G y ws rm' (.ref b :: As) wc wf Q) (hT : GoodIn Ts (wsV own i C y ws)) (hw : ws = Cond.code y bytes maxL ret :: ws') (hd : y.cls = C ∧ y.cls ≠ "java/lang/invoke/MethodHandle" ∧ y.cls ≠ "java/lang/invoke/VarHandle" ∧ (parseMethodDescriptor y.desc).map (fun d => d.parameters.length) = some As.length) (hz : rm'.cells = 0 ∧ rm'.slots = 0 ∧ rm'.frames + 1 ≤ rm.frames ∧ 8 + (maxL + 11) + rm'.locals ≤ rm.locals ∧ k ≤ rm.cells ∧ n ≤ rm.slots) (q0 : Nat) (he : w[q0]? = some (b, .inr (ci, fs))) (hc : vwCl[ci]? = some (C, T, M0)) (isC isR perm : List Nat) (hC : isC.map (fun i => w[i]?) = wc.map some) (hR9 : isR.map (fun i => w[i]?) = wr.map some) (hn : (va_nd isC && va_nd isR && va_nd perm && isR.all (fun i => !isC.contains i)) = true) (hp : ∀ u, perm.map (fun i => (wr ++ wf u)[i]?) = (w' u).map some) (hst : st = As.reverse ++ .ref b :: rest) (hrest : (rest.map fun v => v.category).sum ≤ 8) (d : decode cc pc = .ok (.invokevirtual i, 3)) (h : ∀ (r : Nat) (u : S), Q r u → Z E N k n (w' u) lv (pc + 3) (.ref r :: rest)) : Z E N k n w lv pc st := by
  obtain ⟨p, l, e, R, s, m, args, below, meth, c, D, A, Qz⟩ := E
  obtain ⟨hx, hb, hml, hown, hts, hK, hN, hA, hR, hGl, hGd⟩ := F
  subst hR hGl hGd
  simp only [Bool.and_eq_true] at hn
  obtain ⟨⟨⟨hn1, hn2⟩, hn3⟩, hn4⟩ := hn
  have hdis : ∀ i ∈ isR, i ∉ isC := fun i hi => by
    have := List.all_eq_true.mp hn4 i hi
    simpa using this
  intro H locs ls hP hD hS hl
  have hPc := hP.sub isC (z_fm hC)
  have hDc := hD.sub isC hn1 hC
  have hFc := va_free (wc := wc) hD hS hA isC hC
  refine va_callr (va_runV (As := As) (rest := rest) ⟨hx, hb, hml, hown, hts⟩ (hM H.size) (cwV As.length hts hT hw hz.1 hz.2.1 hd ⟨hz.2.2.1, hz.2.2.2.1⟩) ⟨zPc_blind G _ _ _, va_recv hK hP hc he, fun U hU hW => ⟨rfl, by rw [hU], by rw [hU]; exact hPc, va_K.moved hW.alike hK, zN.warm hW hN, hDc.weaken (fun _ _ _ _ => trivial)⟩⟩ rfl rfl hl.1 hst (lv_room hrest) d ⟨hz.2.2.2.2.1, hz.2.2.2.2.2⟩) hS (fun q _ h => hFc q h) hFc (fun u r t H1 locs1 ht hvm hq0 hB hz1 hk1 hS1 => ?_)
  obtain ⟨hq, hP1, hD1⟩ := hB
  rw [ht] at hP1
  obtain ⟨hP2, hD2⟩ := va_join (wr := wr) (w1 := wf u) hP hD isC isR hC hR9 hn2 hdis hk1 hFc hP1 hD1
  exact h r u hq H1 locs1 ls (hP2.sub perm (z_fm (hp u))) (hD2.sub perm hn3 (hp u)) hS1 hl
theorem z_callSi {S : Type} {y : MethodName} {ws ws' : List Cond} {bytes : ByteArray} {maxL i : Nat} {ret : Option FieldType} {rm' : Room} {As rest : List Value} {wc wr : va_W} {wf : S → va_W} {Q : Int32 → S → Prop} (w' : S → va_W) (F : ZF E N cc own Ts rm G) (hM : ZMi G y ws rm' (As) wc wf Q) (hT : GoodIn Ts (va_wsS own i y ws)) (hw : ws = Cond.code y bytes maxL ret :: ws') (hd : y.cls ≠ "java/lang/invoke/MethodHandle" ∧ y.cls ≠ "java/lang/invoke/VarHandle" ∧ (parseMethodDescriptor y.desc).map (fun d => d.parameters.length) = some As.length) (hz : rm'.cells = 0 ∧ rm'.slots = 0 ∧ rm'.frames + 1 ≤ rm.frames ∧ 8 + (maxL + 11) + rm'.locals ≤ rm.locals ∧ k ≤ rm.cells ∧ n ≤ rm.slots) (isC isR perm : List Nat) (hC : isC.map (fun i => w[i]?) = wc.map some) (hR9 : isR.map (fun i => w[i]?) = wr.map some) (hn : (va_nd isC && va_nd isR && va_nd perm && isR.all (fun i => !isC.contains i)) = true) (hp : ∀ u, perm.map (fun i => (wr ++ wf u)[i]?) = (w' u).map some) (hst : st = As.reverse ++ rest) (hrest : (rest.map fun v => v.category).sum ≤ 8) (d : decode cc pc = .ok (.invokestatic i, 3)) (h : ∀ (r : Int32) (u : S), Q r u → Z E N k n (w' u) lv (pc + 3) (.int r :: rest)) : Z E N k n w lv pc st := by
  obtain ⟨p, l, e, R, s, m, args, below, meth, c, D, A, Qz⟩ := E
  obtain ⟨hx, hb, hml, hown, hts, hK, hN, hA, hR, hGl, hGd⟩ := F
  subst hR hGl hGd
  simp only [Bool.and_eq_true] at hn
  obtain ⟨⟨⟨hn1, hn2⟩, hn3⟩, hn4⟩ := hn
  have hdis : ∀ i ∈ isR, i ∉ isC := fun i hi => by
    have := List.all_eq_true.mp hn4 i hi
    simpa using this
  intro H locs ls hP hD hS hl
  have hPc := hP.sub isC (z_fm hC)
  have hDc := hD.sub isC hn1 hC
  have hFc := va_free (wc := wc) hD hS hA isC hC
  refine va_calli (va_runS (As := As) (rest := rest) ⟨hx, hb, hml, hown, hts⟩ (hM H.size) (va_cwS As.length hts hT hw hz.1 hz.2.1 hd ⟨hz.2.2.1, hz.2.2.2.1⟩) ⟨zPc_blind G _ _ _, fun U hU hW => ⟨rfl, by rw [hU], by rw [hU]; exact hPc, va_K.moved hW.alike hK, zN.warm hW hN, hDc.weaken (fun _ _ _ _ => trivial)⟩⟩ rfl rfl hl.1 hst (lv_room hrest) d ⟨hz.2.2.2.2.1, hz.2.2.2.2.2⟩) hS (fun q _ h => hFc q h) hFc (fun r u t H1 locs1 ht hvm hq hB hz1 hk1 hS1 => ?_)
  obtain ⟨hP1, hD1⟩ := hB
  rw [ht] at hP1
  obtain ⟨hP2, hD2⟩ := va_join (wr := wr) (w1 := wf u) hP hD isC isR hC hR9 hn2 hdis hk1 hFc hP1 hD1
  exact h r u hq H1 locs1 ls (hP2.sub perm (z_fm (hp u))) (hD2.sub perm hn3 (hp u)) hS1 hl
theorem z_callSl {S : Type} {y : MethodName} {ws ws' : List Cond} {bytes : ByteArray} {maxL i : Nat} {ret : Option FieldType} {rm' : Room} {As rest : List Value} {wc wr : va_W} {wf : S → va_W} {Q : Int64 → S → Prop} (w' : S → va_W) (F : ZF E N cc own Ts rm G) (hM : ZMl G y ws rm' (As) wc wf Q) (hT : GoodIn Ts (va_wsS own i y ws)) (hw : ws = Cond.code y bytes maxL ret :: ws') (hd : y.cls ≠ "java/lang/invoke/MethodHandle" ∧ y.cls ≠ "java/lang/invoke/VarHandle" ∧ (parseMethodDescriptor y.desc).map (fun d => d.parameters.length) = some As.length) (hz : rm'.cells = 0 ∧ rm'.slots = 0 ∧ rm'.frames + 1 ≤ rm.frames ∧ 8 + (maxL + 11) + rm'.locals ≤ rm.locals ∧ k ≤ rm.cells ∧ n ≤ rm.slots) (isC isR perm : List Nat) (hC : isC.map (fun i => w[i]?) = wc.map some) (hR9 : isR.map (fun i => w[i]?) = wr.map some) (hn : (va_nd isC && va_nd isR && va_nd perm && isR.all (fun i => !isC.contains i)) = true) (hp : ∀ u, perm.map (fun i => (wr ++ wf u)[i]?) = (w' u).map some) (hst : st = As.reverse ++ rest) (hrest : (rest.map fun v => v.category).sum ≤ 8) (d : decode cc pc = .ok (.invokestatic i, 3)) (h : ∀ (r : Int64) (u : S), Q r u → Z E N k n (w' u) lv (pc + 3) (.long r :: rest)) : Z E N k n w lv pc st := by
  obtain ⟨p, l, e, R, s, m, args, below, meth, c, D, A, Qz⟩ := E
  obtain ⟨hx, hb, hml, hown, hts, hK, hN, hA, hR, hGl, hGd⟩ := F
  subst hR hGl hGd
  simp only [Bool.and_eq_true] at hn
  obtain ⟨⟨⟨hn1, hn2⟩, hn3⟩, hn4⟩ := hn
  have hdis : ∀ i ∈ isR, i ∉ isC := fun i hi => by
    have := List.all_eq_true.mp hn4 i hi
    simpa using this
  intro H locs ls hP hD hS hl
  have hPc := hP.sub isC (z_fm hC)
  have hDc := hD.sub isC hn1 hC
  have hFc := va_free (wc := wc) hD hS hA isC hC
  refine va_calll (va_runS (As := As) (rest := rest) ⟨hx, hb, hml, hown, hts⟩ (hM H.size) (va_cwS As.length hts hT hw hz.1 hz.2.1 hd ⟨hz.2.2.1, hz.2.2.2.1⟩) ⟨zPc_blind G _ _ _, fun U hU hW => ⟨rfl, by rw [hU], by rw [hU]; exact hPc, va_K.moved hW.alike hK, zN.warm hW hN, hDc.weaken (fun _ _ _ _ => trivial)⟩⟩ rfl rfl hl.1 hst (lv_room hrest) d ⟨hz.2.2.2.2.1, hz.2.2.2.2.2⟩) hS (fun q _ h => hFc q h) hFc (fun r u t H1 locs1 ht hvm hq hB hz1 hk1 hS1 => ?_)
  obtain ⟨hP1, hD1⟩ := hB
  rw [ht] at hP1
  obtain ⟨hP2, hD2⟩ := va_join (wr := wr) (w1 := wf u) hP hD isC isR hC hR9 hn2 hdis hk1 hFc hP1 hD1
  exact h r u hq H1 locs1 ls (hP2.sub perm (z_fm (hp u))) (hD2.sub perm hn3 (hp u)) hS1 hl
theorem z_callNi {S : Type} {y : MethodName} {ws ws' : List Cond} {bytes : ByteArray} {maxL i : Nat} {ret : Option FieldType} {rm' : Room} {As rest : List Value} {wc wr : va_W} {wf : S → va_W} {Q : Int32 → S → Prop} (w' : S → va_W) (F : ZF E N cc own Ts rm G) (hM : ZMi G y ws rm' (As) wc wf Q) (hT : GoodIn Ts ws) (hNw : (own, i, y) ∈ zNl) (hini : ZW E (.initialized y.cls)) (hsta : ZW E (.static y)) (hw : ws = Cond.code y bytes maxL ret :: ws') (hd : y.cls ≠ "java/lang/invoke/MethodHandle" ∧ y.cls ≠ "java/lang/invoke/VarHandle" ∧ (parseMethodDescriptor y.desc).map (fun d => d.parameters.length) = some As.length) (hz : rm'.cells = 0 ∧ rm'.slots = 0 ∧ rm'.frames + 1 ≤ rm.frames ∧ 8 + (maxL + 11) + rm'.locals ≤ rm.locals ∧ k ≤ rm.cells ∧ n ≤ rm.slots) (isC isR perm : List Nat) (hC : isC.map (fun i => w[i]?) = wc.map some) (hR9 : isR.map (fun i => w[i]?) = wr.map some) (hn : (va_nd isC && va_nd isR && va_nd perm && isR.all (fun i => !isC.contains i)) = true) (hp : ∀ u, perm.map (fun i => (wr ++ wf u)[i]?) = (w' u).map some) (hst : st = As.reverse ++ rest) (hrest : (rest.map fun v => v.category).sum ≤ 8) (d : decode cc pc = .ok (.invokestatic i, 3)) (h : ∀ (r : Int32) (u : S), Q r u → Z E N k n (w' u) lv (pc + 3) (.int r :: rest)) : Z E N k n w lv pc st := by
  obtain ⟨p, l, e, R, s, m, args, below, meth, c, D, A, Qz⟩ := E
  obtain ⟨hx, hb, hml, hown, hts, hK, hN, hA, hR, hGl, hGd⟩ := F
  subst hR hGl hGd
  simp only [Bool.and_eq_true] at hn
  obtain ⟨⟨⟨hn1, hn2⟩, hn3⟩, hn4⟩ := hn
  have hdis : ∀ i ∈ isR, i ∉ isC := fun i hi => by
    have := List.all_eq_true.mp hn4 i hi
    simpa using this
  intro H locs ls hP hD hS hl
  have hPc := hP.sub isC (z_fm hC)
  have hDc := hD.sub isC hn1 hC
  have hFc := va_free (wc := wc) hD hS hA isC hC
  refine va_calli (va_runSN (host := "ColourEcho") (As := As) (rest := rest) ⟨hx, hb, hml, hown, hts⟩ (hM H.size) (⟨va_cnB As.length hts hT hw hz.1 hz.2.1 (hN _ hNw) hini hd ⟨hz.2.2.1, hz.2.2.2.1⟩, hsta, trivial⟩) ⟨zPc_blind G _ _ _, fun U hU hW => ⟨rfl, by rw [hU], by rw [hU]; exact hPc, va_K.moved hW.alike hK, zN.warm hW hN, hDc.weaken (fun _ _ _ _ => trivial)⟩⟩ rfl rfl hl.1 hst (lv_room hrest) d ⟨hz.2.2.2.2.1, hz.2.2.2.2.2⟩) hS (fun q _ h => hFc q h) hFc (fun r u t H1 locs1 ht hvm hq hB hz1 hk1 hS1 => ?_)
  obtain ⟨hP1, hD1⟩ := hB
  rw [ht] at hP1
  obtain ⟨hP2, hD2⟩ := va_join (wr := wr) (w1 := wf u) hP hD isC isR hC hR9 hn2 hdis hk1 hFc hP1 hD1
  exact h r u hq H1 locs1 ls (hP2.sub perm (z_fm (hp u))) (hD2.sub perm hn3 (hp u)) hS1 hl
theorem z_callNl {S : Type} {y : MethodName} {ws ws' : List Cond} {bytes : ByteArray} {maxL i : Nat} {ret : Option FieldType} {rm' : Room} {As rest : List Value} {wc wr : va_W} {wf : S → va_W} {Q : Int64 → S → Prop} (w' : S → va_W) (F : ZF E N cc own Ts rm G) (hM : ZMl G y ws rm' (As) wc wf Q) (hT : GoodIn Ts ws) (hNw : (own, i, y) ∈ zNl) (hini : ZW E (.initialized y.cls)) (hsta : ZW E (.static y)) (hw : ws = Cond.code y bytes maxL ret :: ws') (hd : y.cls ≠ "java/lang/invoke/MethodHandle" ∧ y.cls ≠ "java/lang/invoke/VarHandle" ∧ (parseMethodDescriptor y.desc).map (fun d => d.parameters.length) = some As.length) (hz : rm'.cells = 0 ∧ rm'.slots = 0 ∧ rm'.frames + 1 ≤ rm.frames ∧ 8 + (maxL + 11) + rm'.locals ≤ rm.locals ∧ k ≤ rm.cells ∧ n ≤ rm.slots) (isC isR perm : List Nat) (hC : isC.map (fun i => w[i]?) = wc.map some) (hR9 : isR.map (fun i => w[i]?) = wr.map some) (hn : (va_nd isC && va_nd isR && va_nd perm && isR.all (fun i => !isC.contains i)) = true) (hp : ∀ u, perm.map (fun i => (wr ++ wf u)[i]?) = (w' u).map some) (hst : st = As.reverse ++ rest) (hrest : (rest.map fun v => v.category).sum ≤ 8) (d : decode cc pc = .ok (.invokestatic i, 3)) (h : ∀ (r : Int64) (u : S), Q r u → Z E N k n (w' u) lv (pc + 3) (.long r :: rest)) : Z E N k n w lv pc st := by
  obtain ⟨p, l, e, R, s, m, args, below, meth, c, D, A, Qz⟩ := E
  obtain ⟨hx, hb, hml, hown, hts, hK, hN, hA, hR, hGl, hGd⟩ := F
  subst hR hGl hGd
  simp only [Bool.and_eq_true] at hn
  obtain ⟨⟨⟨hn1, hn2⟩, hn3⟩, hn4⟩ := hn
  have hdis : ∀ i ∈ isR, i ∉ isC := fun i hi => by
    have := List.all_eq_true.mp hn4 i hi
    simpa using this
  intro H locs ls hP hD hS hl
  have hPc := hP.sub isC (z_fm hC)
  have hDc := hD.sub isC hn1 hC
  have hFc := va_free (wc := wc) hD hS hA isC hC
  refine va_calll (va_runSN (host := "ColourEcho") (As := As) (rest := rest) ⟨hx, hb, hml, hown, hts⟩ (hM H.size) (⟨va_cnB As.length hts hT hw hz.1 hz.2.1 (hN _ hNw) hini hd ⟨hz.2.2.1, hz.2.2.2.1⟩, hsta, trivial⟩) ⟨zPc_blind G _ _ _, fun U hU hW => ⟨rfl, by rw [hU], by rw [hU]; exact hPc, va_K.moved hW.alike hK, zN.warm hW hN, hDc.weaken (fun _ _ _ _ => trivial)⟩⟩ rfl rfl hl.1 hst (lv_room hrest) d ⟨hz.2.2.2.2.1, hz.2.2.2.2.2⟩) hS (fun q _ h => hFc q h) hFc (fun r u t H1 locs1 ht hvm hq hB hz1 hk1 hS1 => ?_)
  obtain ⟨hP1, hD1⟩ := hB
  rw [ht] at hP1
  obtain ⟨hP2, hD2⟩ := va_join (wr := wr) (w1 := wf u) hP hD isC isR hC hR9 hn2 hdis hk1 hFc hP1 hD1
  exact h r u hq H1 locs1 ls (hP2.sub perm (z_fm (hp u))) (hD2.sub perm hn3 (hp u)) hS1 hl
end
end
