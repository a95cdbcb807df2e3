set_option maxRecDepth 100000 in
set_option maxHeartbeats 8000000 in
theorem mL_law (G : ZG) (a ab : Nat → Nat) (sb L : Nat) (xs : Nat → Int32) (E : ZE) (F : ZF E 4 cL_law RL wsL_law room_1 G) (X : ZX E sb L xs) (Q : Int32 → Gr → Gr → Pd → Dy → Gr → Co → Gu → Gm → Gr → Gr → Kp → Ec → Mo → Prop) (hret : ∀ (v : Int32) (u9 : Gr × Gr × Pd × Dy × Gr × Co × Gu × Gm × Gr × Gr × Kp × Ec × Mo) (lv : List (Nat × Value)) (pc : Nat), Q v u9.1 u9.2.1 u9.2.2.1 u9.2.2.2.1 u9.2.2.2.2.1 u9.2.2.2.2.2.1 u9.2.2.2.2.2.2.1 u9.2.2.2.2.2.2.2.1 u9.2.2.2.2.2.2.2.2.1 u9.2.2.2.2.2.2.2.2.2.1 u9.2.2.2.2.2.2.2.2.2.2.1 u9.2.2.2.2.2.2.2.2.2.2.2.1 u9.2.2.2.2.2.2.2.2.2.2.2.2 → decode cL_law pc = .ok (.ireturn, 1) → Z E 4 72 4457 (w_law G a ab u9.1 u9.2.1 u9.2.2.1 u9.2.2.2.1 u9.2.2.2.2.1 u9.2.2.2.2.2.1 u9.2.2.2.2.2.2.1 u9.2.2.2.2.2.2.2.1 u9.2.2.2.2.2.2.2.2.1 u9.2.2.2.2.2.2.2.2.2.1 u9.2.2.2.2.2.2.2.2.2.2.1 u9.2.2.2.2.2.2.2.2.2.2.2.1 u9.2.2.2.2.2.2.2.2.2.2.2.2) lv pc [.int v]) : ∀ (n : Nat) (vg : Gr) (vs : Gr) (vp : Pd) (vy : Dy) (ve : Gr) (vc : Co) (vu : Gu) (vt : Gm) (vi : Gr) (vj : Gr) (vk : Kp) (vh : Ec) (vm : Mo) (x3 : Int32), wpL_law_L18 xs L Q n vg vs vp vy ve vc vu vt vi vj vk vh vm x3 → Z E 4 72 4457 (w_law G a ab vg vs vp vy ve vc vu vt vi vj vk vh vm) [(0, .ref (sb)), (1, .ref (a 0)), (2, .ref (ab 0)), (3, .int x3)] 18 [] := by
  have t1044 : ∀ (K18 : Gr → Gr → Pd → Dy → Gr → Co → Gu → Gm → Gr → Gr → Kp → Ec → Mo → Int32 → Prop) (ih18 : ∀ (vg : Gr) (vs : Gr) (vp : Pd) (vy : Dy) (ve : Gr) (vc : Co) (vu : Gu) (vt : Gm) (vi : Gr) (vj : Gr) (vk : Kp) (vh : Ec) (vm : Mo) (x3 : Int32), K18 vg vs vp vy ve vc vu vt vi vj vk vh vm x3 → Z E 4 72 4457 (w_law G a ab vg vs vp vy ve vc vu vt vi vj vk vh vm) [(0, .ref (sb)), (1, .ref (a 0)), (2, .ref (ab 0)), (3, .int x3)] 18 []) (vg : Gr) (vs : Gr) (vp : Pd) (vy : Dy) (ve : Gr) (vc : Co) (vu : Gu) (vt : Gm) (vi : Gr) (vj : Gr) (vk : Kp) (vh : Ec) (vm : Mo) (x3 : Int32), wpL_law_B1044 xs L Q K18 vg vs vp vy ve vc vu vt vi vj vk vh vm x3 → Z E 4 72 4457 (w_law G a ab vg vs vp vy ve vc vu vt vi vj vk vh vm) [(0, .ref (sb)), (1, .ref (a 0)), (2, .ref (ab 0)), (3, .int x3)] 1044 [] := by
    intro K18 ih18 vg vs vp vy ve vc vu vt vi vj vk vh vm x3 h
    unfold wpL_law_B1044 at h
    obtain ⟨x3_153, e9⟩ : ∃ z : Int32, z = x3 + 7 := ⟨_, rfl⟩
    have h := h x3_153 e9
    refine z_iinc (v := x3_153) [(3, .int x3_153), (0, .ref (sb)), (1, .ref (a 0)), (2, .ref (ab 0))] F dL_law_1044 3 rfl (by rw [e9]; rfl) (by decide) rfl ?_
    refine z_goto 18 F dL_law_1047 (by decide) ?_
    exact z_lv [1, 2, 3, 0] rfl (ih18 vg vs vp vy ve vc vu vt vi vj vk vh vm x3_153 h)
  intro n
  induction n with
  | zero => intro vg vs vp vy ve vc vu vt vi vj vk vh vm x3 h; exact h.elim
  | succ n ihQ =>
    have ih18 : ∀ (vg : Gr) (vs : Gr) (vp : Pd) (vy : Dy) (ve : Gr) (vc : Co) (vu : Gu) (vt : Gm) (vi : Gr) (vj : Gr) (vk : Kp) (vh : Ec) (vm : Mo) (x3 : Int32), wpL_law_L18 xs L Q n vg vs vp vy ve vc vu vt vi vj vk vh vm x3 → Z E 4 72 4457 (w_law G a ab vg vs vp vy ve vc vu vt vi vj vk vh vm) [(0, .ref (sb)), (1, .ref (a 0)), (2, .ref (ab 0)), (3, .int x3)] 18 [] := ihQ
    intro vg vs vp vy ve vc vu vt vi vj vk vh vm x3 h
    have h : wpL_law_H18 xs L Q (wpL_law_L18 xs L Q n) vg vs vp vy ve vc vu vt vi vj vk vh vm x3 := h
    generalize wpL_law_L18 xs L Q n = K18 at h ih18
    clear ihQ
    unfold wpL_law_H18 at h
    refine z_iload_n F dL_law_18 rfl 3 rfl ?_
    refine z_aload_n F dL_law_19 rfl 0 rfl ?_
    refine z_slen F X dL_law_20 ?_
    refine z_bipush (v := 7) F dL_law_21 rfl ?_
    refine z_isub F dL_law_23 ?_
    refine z_icmp_gt 1050 F dL_law_24 (by decide) (fun c9 => ?_) (fun c9 => ?_)
    · have h := h.1 c9
      refine z_iconst (v := 1) F dL_law_1050 rfl ?_
      exact hret (1 : Int32) (vg, vs, vp, vy, ve, vc, vu, vt, vi, vj, vk, vh, vm) _ _ h dL_law_1051
    · have h := h.2 c9
      refine z_aload_n F dL_law_27 rfl 0 rfl ?_
      refine z_iload_n F dL_law_28 rfl 3 rfl ?_
      have h9 := h.1
      have h := h.2
      refine z_sld F X h9 dL_law_29 ?_
      refine z_bipush (v := 31) F dL_law_30 rfl ?_
      refine z_iand F dL_law_32 ?_
      by_cases c0 : ((xs (x3).toNatClampNeg) &&& (31 : Int32)) = 0
      · have h := h.1 c0
        refine z_tableIn (off := 131) 164 F dL_law_33 (by rw [c0] <;> decide) (by rw [c0] <;> decide) (by rw [c0] <;> decide) (by decide) ?_
        exact mL_c0 G a ab sb L xs E F X Q hret K18 (t1044 K18 ih18) vg vs vp vy ve vc vu vt vi vj vk vh vm x3 h
      have h := h.2 c0
      by_cases c1 : ((xs (x3).toNatClampNeg) &&& (31 : Int32)) = 1
      · have h := h.1 c1
        refine z_tableIn (off := 174) 207 F dL_law_33 (by rw [c1] <;> decide) (by rw [c1] <;> decide) (by rw [c1] <;> decide) (by decide) ?_
        exact mL_c1 G a ab sb L xs E F X Q hret K18 (t1044 K18 ih18) vg vs vp vy ve vc vu vt vi vj vk vh vm x3 h
      have h := h.2 c1
      by_cases c2 : ((xs (x3).toNatClampNeg) &&& (31 : Int32)) = 2
      · have h := h.1 c2
        refine z_tableIn (off := 227) 260 F dL_law_33 (by rw [c2] <;> decide) (by rw [c2] <;> decide) (by rw [c2] <;> decide) (by decide) ?_
        exact mL_c2 G a ab sb L xs E F X Q hret K18 (t1044 K18 ih18) vg vs vp vy ve vc vu vt vi vj vk vh vm x3 h
      have h := h.2 c2
      by_cases c3 : ((xs (x3).toNatClampNeg) &&& (31 : Int32)) = 3
      · have h := h.1 c3
        refine z_tableIn (off := 250) 283 F dL_law_33 (by rw [c3] <;> decide) (by rw [c3] <;> decide) (by rw [c3] <;> decide) (by decide) ?_
        exact mL_c3 G a ab sb L xs E F X Q hret K18 (t1044 K18 ih18) vg vs vp vy ve vc vu vt vi vj vk vh vm x3 h
      have h := h.2 c3
      by_cases c4 : ((xs (x3).toNatClampNeg) &&& (31 : Int32)) = 4
      · have h := h.1 c4
        refine z_tableIn (off := 273) 306 F dL_law_33 (by rw [c4] <;> decide) (by rw [c4] <;> decide) (by rw [c4] <;> decide) (by decide) ?_
        exact mL_c4 G a ab sb L xs E F X Q hret K18 (t1044 K18 ih18) vg vs vp vy ve vc vu vt vi vj vk vh vm x3 h
      have h := h.2 c4
      by_cases c5 : ((xs (x3).toNatClampNeg) &&& (31 : Int32)) = 5
      · have h := h.1 c5
        refine z_tableIn (off := 286) 319 F dL_law_33 (by rw [c5] <;> decide) (by rw [c5] <;> decide) (by rw [c5] <;> decide) (by decide) ?_
        exact mL_c5 G a ab sb L xs E F X Q hret K18 (t1044 K18 ih18) vg vs vp vy ve vc vu vt vi vj vk vh vm x3 h
      have h := h.2 c5
      by_cases c6 : ((xs (x3).toNatClampNeg) &&& (31 : Int32)) = 6
      · have h := h.1 c6
        refine z_tableIn (off := 299) 332 F dL_law_33 (by rw [c6] <;> decide) (by rw [c6] <;> decide) (by rw [c6] <;> decide) (by decide) ?_
        exact mL_c6 G a ab sb L xs E F X Q hret K18 (t1044 K18 ih18) vg vs vp vy ve vc vu vt vi vj vk vh vm x3 h
      have h := h.2 c6
      by_cases c7 : ((xs (x3).toNatClampNeg) &&& (31 : Int32)) = 7
      · have h := h.1 c7
        refine z_tableIn (off := 322) 355 F dL_law_33 (by rw [c7] <;> decide) (by rw [c7] <;> decide) (by rw [c7] <;> decide) (by decide) ?_
        exact mL_c7 G a ab sb L xs E F X Q hret K18 (t1044 K18 ih18) vg vs vp vy ve vc vu vt vi vj vk vh vm x3 h
      have h := h.2 c7
      by_cases c8 : ((xs (x3).toNatClampNeg) &&& (31 : Int32)) = 8
      · have h := h.1 c8
        refine z_tableIn (off := 335) 368 F dL_law_33 (by rw [c8] <;> decide) (by rw [c8] <;> decide) (by rw [c8] <;> decide) (by decide) ?_
        exact mL_c8 G a ab sb L xs E F X Q hret K18 (t1044 K18 ih18) vg vs vp vy ve vc vu vt vi vj vk vh vm x3 h
      have h := h.2 c8
      by_cases c9 : ((xs (x3).toNatClampNeg) &&& (31 : Int32)) = 9
      · have h := h.1 c9
        refine z_tableIn (off := 358) 391 F dL_law_33 (by rw [c9] <;> decide) (by rw [c9] <;> decide) (by rw [c9] <;> decide) (by decide) ?_
        exact mL_c9 G a ab sb L xs E F X Q hret K18 (t1044 K18 ih18) vg vs vp vy ve vc vu vt vi vj vk vh vm x3 h
      have h := h.2 c9
      by_cases c10 : ((xs (x3).toNatClampNeg) &&& (31 : Int32)) = 10
      · have h := h.1 c10
        refine z_tableIn (off := 371) 404 F dL_law_33 (by rw [c10] <;> decide) (by rw [c10] <;> decide) (by rw [c10] <;> decide) (by decide) ?_
        exact mL_c10 G a ab sb L xs E F X Q hret K18 (t1044 K18 ih18) vg vs vp vy ve vc vu vt vi vj vk vh vm x3 h
      have h := h.2 c10
      by_cases c11 : ((xs (x3).toNatClampNeg) &&& (31 : Int32)) = 11
      · have h := h.1 c11
        refine z_tableIn (off := 394) 427 F dL_law_33 (by rw [c11] <;> decide) (by rw [c11] <;> decide) (by rw [c11] <;> decide) (by decide) ?_
        exact mL_c11 G a ab sb L xs E F X Q hret K18 (t1044 K18 ih18) vg vs vp vy ve vc vu vt vi vj vk vh vm x3 h
      have h := h.2 c11
      by_cases c12 : ((xs (x3).toNatClampNeg) &&& (31 : Int32)) = 12
      · have h := h.1 c12
        refine z_tableIn (off := 427) 460 F dL_law_33 (by rw [c12] <;> decide) (by rw [c12] <;> decide) (by rw [c12] <;> decide) (by decide) ?_
        exact mL_c12 G a ab sb L xs E F X Q hret K18 (t1044 K18 ih18) vg vs vp vy ve vc vu vt vi vj vk vh vm x3 h
      have h := h.2 c12
      by_cases c13 : ((xs (x3).toNatClampNeg) &&& (31 : Int32)) = 13
      · have h := h.1 c13
        refine z_tableIn (off := 440) 473 F dL_law_33 (by rw [c13] <;> decide) (by rw [c13] <;> decide) (by rw [c13] <;> decide) (by decide) ?_
        exact mL_c13 G a ab sb L xs E F X Q hret K18 (t1044 K18 ih18) vg vs vp vy ve vc vu vt vi vj vk vh vm x3 h
      have h := h.2 c13
      by_cases c14 : ((xs (x3).toNatClampNeg) &&& (31 : Int32)) = 14
      · have h := h.1 c14
        refine z_tableIn (off := 463) 496 F dL_law_33 (by rw [c14] <;> decide) (by rw [c14] <;> decide) (by rw [c14] <;> decide) (by decide) ?_
        exact mL_c14 G a ab sb L xs E F X Q hret K18 (t1044 K18 ih18) vg vs vp vy ve vc vu vt vi vj vk vh vm x3 h
      have h := h.2 c14
      by_cases c15 : ((xs (x3).toNatClampNeg) &&& (31 : Int32)) = 15
      · have h := h.1 c15
        refine z_tableIn (off := 516) 549 F dL_law_33 (by rw [c15] <;> decide) (by rw [c15] <;> decide) (by rw [c15] <;> decide) (by decide) ?_
        exact mL_c15 G a ab sb L xs E F X Q hret K18 (t1044 K18 ih18) vg vs vp vy ve vc vu vt vi vj vk vh vm x3 h
      have h := h.2 c15
      by_cases c16 : ((xs (x3).toNatClampNeg) &&& (31 : Int32)) = 16
      · have h := h.1 c16
        refine z_tableIn (off := 569) 602 F dL_law_33 (by rw [c16] <;> decide) (by rw [c16] <;> decide) (by rw [c16] <;> decide) (by decide) ?_
        exact mL_c16 G a ab sb L xs E F X Q hret K18 (t1044 K18 ih18) vg vs vp vy ve vc vu vt vi vj vk vh vm x3 h
      have h := h.2 c16
      by_cases c17 : ((xs (x3).toNatClampNeg) &&& (31 : Int32)) = 17
      · have h := h.1 c17
        refine z_tableIn (off := 612) 645 F dL_law_33 (by rw [c17] <;> decide) (by rw [c17] <;> decide) (by rw [c17] <;> decide) (by decide) ?_
        exact mL_c17 G a ab sb L xs E F X Q hret K18 (t1044 K18 ih18) vg vs vp vy ve vc vu vt vi vj vk vh vm x3 h
      have h := h.2 c17
      by_cases c18 : ((xs (x3).toNatClampNeg) &&& (31 : Int32)) = 18
      · have h := h.1 c18
        refine z_tableIn (off := 655) 688 F dL_law_33 (by rw [c18] <;> decide) (by rw [c18] <;> decide) (by rw [c18] <;> decide) (by decide) ?_
        exact mL_c18 G a ab sb L xs E F X Q hret K18 (t1044 K18 ih18) vg vs vp vy ve vc vu vt vi vj vk vh vm x3 h
      have h := h.2 c18
      by_cases c19 : ((xs (x3).toNatClampNeg) &&& (31 : Int32)) = 19
      · have h := h.1 c19
        refine z_tableIn (off := 698) 731 F dL_law_33 (by rw [c19] <;> decide) (by rw [c19] <;> decide) (by rw [c19] <;> decide) (by decide) ?_
        exact mL_c19 G a ab sb L xs E F X Q hret K18 (t1044 K18 ih18) vg vs vp vy ve vc vu vt vi vj vk vh vm x3 h
      have h := h.2 c19
      by_cases c20 : ((xs (x3).toNatClampNeg) &&& (31 : Int32)) = 20
      · have h := h.1 c20
        refine z_tableIn (off := 731) 764 F dL_law_33 (by rw [c20] <;> decide) (by rw [c20] <;> decide) (by rw [c20] <;> decide) (by decide) ?_
        exact mL_c20 G a ab sb L xs E F X Q hret K18 (t1044 K18 ih18) vg vs vp vy ve vc vu vt vi vj vk vh vm x3 h
      have h := h.2 c20
      by_cases c21 : ((xs (x3).toNatClampNeg) &&& (31 : Int32)) = 21
      · have h := h.1 c21
        refine z_tableIn (off := 744) 777 F dL_law_33 (by rw [c21] <;> decide) (by rw [c21] <;> decide) (by rw [c21] <;> decide) (by decide) ?_
        exact mL_c21 G a ab sb L xs E F X Q hret K18 (t1044 K18 ih18) vg vs vp vy ve vc vu vt vi vj vk vh vm x3 h
      have h := h.2 c21
      by_cases c22 : ((xs (x3).toNatClampNeg) &&& (31 : Int32)) = 22
      · have h := h.1 c22
        refine z_tableIn (off := 767) 800 F dL_law_33 (by rw [c22] <;> decide) (by rw [c22] <;> decide) (by rw [c22] <;> decide) (by decide) ?_
        exact mL_c22 G a ab sb L xs E F X Q hret K18 (t1044 K18 ih18) vg vs vp vy ve vc vu vt vi vj vk vh vm x3 h
      have h := h.2 c22
      by_cases c23 : ((xs (x3).toNatClampNeg) &&& (31 : Int32)) = 23
      · have h := h.1 c23
        refine z_tableIn (off := 790) 823 F dL_law_33 (by rw [c23] <;> decide) (by rw [c23] <;> decide) (by rw [c23] <;> decide) (by decide) ?_
        exact mL_c23 G a ab sb L xs E F X Q hret K18 (t1044 K18 ih18) vg vs vp vy ve vc vu vt vi vj vk vh vm x3 h
      have h := h.2 c23
      by_cases c24 : ((xs (x3).toNatClampNeg) &&& (31 : Int32)) = 24
      · have h := h.1 c24
        refine z_tableIn (off := 866) 899 F dL_law_33 (by rw [c24] <;> decide) (by rw [c24] <;> decide) (by rw [c24] <;> decide) (by decide) ?_
        exact mL_c24 G a ab sb L xs E F X Q hret K18 (t1044 K18 ih18) vg vs vp vy ve vc vu vt vi vj vk vh vm x3 h
      have h := h.2 c24
      by_cases c25 : ((xs (x3).toNatClampNeg) &&& (31 : Int32)) = 25
      · have h := h.1 c25
        refine z_tableIn (off := 899) 932 F dL_law_33 (by rw [c25] <;> decide) (by rw [c25] <;> decide) (by rw [c25] <;> decide) (by decide) ?_
        exact mL_c25 G a ab sb L xs E F X Q hret K18 (t1044 K18 ih18) vg vs vp vy ve vc vu vt vi vj vk vh vm x3 h
      have h := h.2 c25
      by_cases c26 : ((xs (x3).toNatClampNeg) &&& (31 : Int32)) = 26
      · have h := h.1 c26
        refine z_tableIn (off := 942) 975 F dL_law_33 (by rw [c26] <;> decide) (by rw [c26] <;> decide) (by rw [c26] <;> decide) (by decide) ?_
        exact mL_c26 G a ab sb L xs E F X Q hret K18 (t1044 K18 ih18) vg vs vp vy ve vc vu vt vi vj vk vh vm x3 h
      have h := h.2 c26
      by_cases c27 : ((xs (x3).toNatClampNeg) &&& (31 : Int32)) = 27
      · have h := h.1 c27
        refine z_tableIn (off := 965) 998 F dL_law_33 (by rw [c27] <;> decide) (by rw [c27] <;> decide) (by rw [c27] <;> decide) (by decide) ?_
        exact mL_c27 G a ab sb L xs E F X Q hret K18 (t1044 K18 ih18) vg vs vp vy ve vc vu vt vi vj vk vh vm x3 h
      have h := h.2 c27
      by_cases c28 : ((xs (x3).toNatClampNeg) &&& (31 : Int32)) = 28
      · have h := h.1 c28
        refine z_tableIn (off := 988) 1021 F dL_law_33 (by rw [c28] <;> decide) (by rw [c28] <;> decide) (by rw [c28] <;> decide) (by decide) ?_
        exact mL_c28 G a ab sb L xs E F X Q hret K18 (t1044 K18 ih18) vg vs vp vy ve vc vu vt vi vj vk vh vm x3 h
      have h := h.2 c28
      refine z_tableOut 1044 F dL_law_33 (by have e0 := lv_neT (a := 0) c0 rfl; have e1 := lv_neT (a := 1) c1 rfl; have e2 := lv_neT (a := 2) c2 rfl; have e3 := lv_neT (a := 3) c3 rfl; have e4 := lv_neT (a := 4) c4 rfl; have e5 := lv_neT (a := 5) c5 rfl; have e6 := lv_neT (a := 6) c6 rfl; have e7 := lv_neT (a := 7) c7 rfl; have e8 := lv_neT (a := 8) c8 rfl; have e9 := lv_neT (a := 9) c9 rfl; have e10 := lv_neT (a := 10) c10 rfl; have e11 := lv_neT (a := 11) c11 rfl; have e12 := lv_neT (a := 12) c12 rfl; have e13 := lv_neT (a := 13) c13 rfl; have e14 := lv_neT (a := 14) c14 rfl; have e15 := lv_neT (a := 15) c15 rfl; have e16 := lv_neT (a := 16) c16 rfl; have e17 := lv_neT (a := 17) c17 rfl; have e18 := lv_neT (a := 18) c18 rfl; have e19 := lv_neT (a := 19) c19 rfl; have e20 := lv_neT (a := 20) c20 rfl; have e21 := lv_neT (a := 21) c21 rfl; have e22 := lv_neT (a := 22) c22 rfl; have e23 := lv_neT (a := 23) c23 rfl; have e24 := lv_neT (a := 24) c24 rfl; have e25 := lv_neT (a := 25) c25 rfl; have e26 := lv_neT (a := 26) c26 rfl; have e27 := lv_neT (a := 27) c27 rfl; have e28 := lv_neT (a := 28) c28 rfl; omega) (by decide) ?_
      exact z_lv [0, 1, 2, 3] rfl (t1044 K18 ih18 vg vs vp vy ve vc vu vt vi vj vk vh vm x3 h)

