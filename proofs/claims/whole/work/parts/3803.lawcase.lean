set_option maxRecDepth 100000 in
set_option maxHeartbeats 4000000 in
theorem mL_c15 (G : ZG) (a : Nat → Nat) (ab : Nat → Nat) (sb L : Nat) (xs : Nat → Int32) (E : ZE) (F : ZF E 4 cL_law RL wsL_law room_1 G) (X : ZX E sb L xs) (Q : Int32 → Gr → Gr → Pd → Dy → Gr → Co → Gu → Gm → Gr → Gr → Kp → Ec → Mo → Prop) (hret : ∀ (v : Int32) (u9 : Gr × Gr × Pd × Dy × Gr × Co × Gu × Gm × Gr × Gr × Kp × Ec × Mo) (lv : List (Nat × Value)) (pc : Nat), Q v u9.1 u9.2.1 u9.2.2.1 u9.2.2.2.1 u9.2.2.2.2.1 u9.2.2.2.2.2.1 u9.2.2.2.2.2.2.1 u9.2.2.2.2.2.2.2.1 u9.2.2.2.2.2.2.2.2.1 u9.2.2.2.2.2.2.2.2.2.1 u9.2.2.2.2.2.2.2.2.2.2.1 u9.2.2.2.2.2.2.2.2.2.2.2.1 u9.2.2.2.2.2.2.2.2.2.2.2.2 → decode cL_law pc = .ok (.ireturn, 1) → Z E 4 72 4457 (w_law G a ab u9.1 u9.2.1 u9.2.2.1 u9.2.2.2.1 u9.2.2.2.2.1 u9.2.2.2.2.2.1 u9.2.2.2.2.2.2.1 u9.2.2.2.2.2.2.2.1 u9.2.2.2.2.2.2.2.2.1 u9.2.2.2.2.2.2.2.2.2.1 u9.2.2.2.2.2.2.2.2.2.2.1 u9.2.2.2.2.2.2.2.2.2.2.2.1 u9.2.2.2.2.2.2.2.2.2.2.2.2) lv pc [.int v]) (K18 : Gr → Gr → Pd → Dy → Gr → Co → Gu → Gm → Gr → Gr → Kp → Ec → Mo → Int32 → Prop) (hJ : ∀ (vg : Gr) (vs : Gr) (vp : Pd) (vy : Dy) (ve : Gr) (vc : Co) (vu : Gu) (vt : Gm) (vi : Gr) (vj : Gr) (vk : Kp) (vh : Ec) (vm : Mo) (x3 : Int32), wpL_law_B1044 xs L Q K18 vg vs vp vy ve vc vu vt vi vj vk vh vm x3 → Z E 4 72 4457 (w_law G a ab vg vs vp vy ve vc vu vt vi vj vk vh vm) [(0, .ref (sb)), (1, .ref (a 0)), (2, .ref (ab 0)), (3, .int x3)] 1044 []) (vg : Gr) (vs : Gr) (vp : Pd) (vy : Dy) (ve : Gr) (vc : Co) (vu : Gu) (vt : Gm) (vi : Gr) (vj : Gr) (vk : Kp) (vh : Ec) (vm : Mo) (x3 : Int32) (h : (vp_in (x3 + (1 : Int32)) L ∧ (vp_in (x3 + (2 : Int32)) L ∧ (vp_in (x3 + (3 : Int32)) L ∧ (vp_in (x3 + (4 : Int32)) L ∧ (wpX6_wish vg vc (xs ((x3 + (1 : Int32))).toNatClampNeg) (xs ((x3 + (2 : Int32))).toNatClampNeg) (xs ((x3 + (3 : Int32))).toNatClampNeg) (xs ((x3 + (4 : Int32))).toNatClampNeg) (fun r_77 vg_78 vc_79 => (vp_in (x3 + (1 : Int32)) L ∧ (vp_in (x3 + (2 : Int32)) L ∧ (vp_in (x3 + (3 : Int32)) L ∧ (vp_in (x3 + (4 : Int32)) L ∧ (wpX7_wish vm (xs ((x3 + (1 : Int32))).toNatClampNeg) (xs ((x3 + (2 : Int32))).toNatClampNeg) (xs ((x3 + (3 : Int32))).toNatClampNeg) (xs ((x3 + (4 : Int32))).toNatClampNeg) (fun r_80 vm_81 => ((r_77 = r_80 → wpL_law_B1044 xs L Q K18 vg_78 vs vp vy ve vc_79 vu vt vi vj vk vh vm_81 x3) ∧ (¬ r_77 = r_80 → Q (0 : Int32) vg_78 vs vp vy ve vc_79 vu vt vi vj vk vh vm_81))))))))))))))) : Z E 4 72 4457 (w_law G a ab vg vs vp vy ve vc vu vt vi vj vk vh vm) [(0, .ref (sb)), (1, .ref (a 0)), (2, .ref (ab 0)), (3, .int x3)] 549 [] := by
  refine z_aload_n F dL_law_549 rfl 1 rfl ?_
  refine z_aload_n F dL_law_550 rfl 0 rfl ?_
  refine z_iload_n F dL_law_551 rfl 3 rfl ?_
  refine z_iconst (v := 1) F dL_law_552 rfl ?_
  refine z_iadd F dL_law_553 ?_
  have h9 := h.1
  have h := h.2
  refine z_sld F X h9 dL_law_554 ?_
  refine z_aload_n F dL_law_555 rfl 0 rfl ?_
  refine z_iload_n F dL_law_556 rfl 3 rfl ?_
  refine z_iconst (v := 2) F dL_law_557 rfl ?_
  refine z_iadd F dL_law_558 ?_
  have h9 := h.1
  have h := h.2
  refine z_sld F X h9 dL_law_559 ?_
  refine z_aload_n F dL_law_560 rfl 0 rfl ?_
  refine z_iload_n F dL_law_561 rfl 3 rfl ?_
  refine z_iconst (v := 3) F dL_law_562 rfl ?_
  refine z_iadd F dL_law_563 ?_
  have h9 := h.1
  have h := h.2
  refine z_sld F X h9 dL_law_564 ?_
  refine z_aload_n F dL_law_565 rfl 0 rfl ?_
  refine z_iload_n F dL_law_566 rfl 3 rfl ?_
  refine z_iconst (v := 4) F dL_law_567 rfl ?_
  refine z_iadd F dL_law_568 ?_
  have h9 := h.1
  have h := h.2
  refine z_sld F X h9 dL_law_569 ?_
  refine z_callVi2 (wr_S4 G a ab vs vp vy ve vu vt vi vj vk vh vm) (fun u9 => w_law G a ab u9.1 vs vp vy ve u9.2 vu vt vi vj vk vh vm) F (mX6_wish G a vg vc (xs ((x3 + (1 : Int32))).toNatClampNeg) (xs ((x3 + (2 : Int32))).toNatClampNeg) (xs ((x3 + (3 : Int32))).toNatClampNeg) (xs ((x3 + (4 : Int32))).toNatClampNeg) _ h) gL_law_X6_wish rfl hdX6_wish ⟨rfl, rfl, Nat.le_of_ble_eq_true rfl, Nat.le_of_ble_eq_true rfl, Nat.le_of_ble_eq_true rfl, Nat.le_of_ble_eq_true rfl⟩ 0 rfl rfl [0, 1, 2, 3, 4, 5, 6, 7, 8, 28, 29] [9, 10, 11, 12, 13, 14, 15, 16, 17, 18, 19, 20, 21, 22, 23, 24, 25, 26, 27, 30, 31, 32, 33, 34, 35, 36, 37, 38, 39, 40, 41, 42, 43, 44, 45, 46, 47, 48, 49, 50, 51, 52, 53, 54, 55, 56, 57, 58, 59, 60, 61, 62, 63, 64, 65, 66, 67, 68, 69, 70, 71] [61, 62, 63, 64, 65, 66, 67, 68, 69, 0, 1, 2, 3, 4, 5, 6, 7, 8, 9, 10, 11, 12, 13, 14, 15, 16, 17, 18, 70, 71, 19, 20, 21, 22, 23, 24, 25, 26, 27, 28, 29, 30, 31, 32, 33, 34, 35, 36, 37, 38, 39, 40, 41, 42, 43, 44, 45, 46, 47, 48, 49, 50, 51, 52, 53, 54, 55, 56, 57, 58, 59, 60] (lc_S4_C G a ab vg vs vp vy ve vc vu vt vi vj vk vh vm) (lc_S4_R G a ab vg vs vp vy ve vc vu vt vi vj vk vh vm) lc_S4_n (fun u9 => lc_S4_P G a ab u9.1 vs vp vy ve u9.2 vu vt vi vj vk vh vm) rfl (Nat.le_of_ble_eq_true rfl) dL_law_570 (fun r_77 u9 h => ?_)
  obtain ⟨vg_78, vc_79⟩ := u9
  refine z_w (w' := w_law G a ab vg_78 vs vp vy ve vc_79 vu vt vi vj vk vh vm) rfl ?_
  refine z_aload_n F dL_law_573 rfl 2 rfl ?_
  refine z_aload_n F dL_law_574 rfl 0 rfl ?_
  refine z_iload_n F dL_law_575 rfl 3 rfl ?_
  refine z_iconst (v := 1) F dL_law_576 rfl ?_
  refine z_iadd F dL_law_577 ?_
  have h9 := h.1
  have h := h.2
  refine z_sld F X h9 dL_law_578 ?_
  refine z_aload_n F dL_law_579 rfl 0 rfl ?_
  refine z_iload_n F dL_law_580 rfl 3 rfl ?_
  refine z_iconst (v := 2) F dL_law_581 rfl ?_
  refine z_iadd F dL_law_582 ?_
  have h9 := h.1
  have h := h.2
  refine z_sld F X h9 dL_law_583 ?_
  refine z_aload_n F dL_law_584 rfl 0 rfl ?_
  refine z_iload_n F dL_law_585 rfl 3 rfl ?_
  refine z_iconst (v := 3) F dL_law_586 rfl ?_
  refine z_iadd F dL_law_587 ?_
  have h9 := h.1
  have h := h.2
  refine z_sld F X h9 dL_law_588 ?_
  refine z_aload_n F dL_law_589 rfl 0 rfl ?_
  refine z_iload_n F dL_law_590 rfl 3 rfl ?_
  refine z_iconst (v := 4) F dL_law_591 rfl ?_
  refine z_iadd F dL_law_592 ?_
  have h9 := h.1
  have h := h.2
  refine z_sld F X h9 dL_law_593 ?_
  refine z_callVi2 (wr_S1 G a ab vg_78 vs vp vy ve vc_79 vu vt vi vj vk vh) (fun u9 => w_law G a ab vg_78 vs vp vy ve vc_79 vu vt vi vj vk vh u9) F (mX7_wish G ab vm (xs ((x3 + (1 : Int32))).toNatClampNeg) (xs ((x3 + (2 : Int32))).toNatClampNeg) (xs ((x3 + (3 : Int32))).toNatClampNeg) (xs ((x3 + (4 : Int32))).toNatClampNeg) _ h) gL_law_X7_wish rfl hdX7_wish ⟨rfl, rfl, Nat.le_of_ble_eq_true rfl, Nat.le_of_ble_eq_true rfl, Nat.le_of_ble_eq_true rfl, Nat.le_of_ble_eq_true rfl⟩ 55 rfl rfl [55, 56, 57, 58, 59, 60, 61, 62, 63, 64, 65, 66, 67, 68, 69, 70, 71] [0, 1, 2, 3, 4, 5, 6, 7, 8, 9, 10, 11, 12, 13, 14, 15, 16, 17, 18, 19, 20, 21, 22, 23, 24, 25, 26, 27, 28, 29, 30, 31, 32, 33, 34, 35, 36, 37, 38, 39, 40, 41, 42, 43, 44, 45, 46, 47, 48, 49, 50, 51, 52, 53, 54] [0, 1, 2, 3, 4, 5, 6, 7, 8, 9, 10, 11, 12, 13, 14, 15, 16, 17, 18, 19, 20, 21, 22, 23, 24, 25, 26, 27, 28, 29, 30, 31, 32, 33, 34, 35, 36, 37, 38, 39, 40, 41, 42, 43, 44, 45, 46, 47, 48, 49, 50, 51, 52, 53, 54, 55, 56, 57, 58, 59, 60, 61, 62, 63, 64, 65, 66, 67, 68, 69, 70, 71] (lc_S1_C G a ab vg_78 vs vp vy ve vc_79 vu vt vi vj vk vh vm) (lc_S1_R G a ab vg_78 vs vp vy ve vc_79 vu vt vi vj vk vh vm) lc_S1_n (fun u9 => lc_S1_P G a ab vg_78 vs vp vy ve vc_79 vu vt vi vj vk vh u9) rfl (Nat.le_of_ble_eq_true rfl) dL_law_594 (fun r_80 vm_81 h => ?_)
  refine z_icmp_eq 1044 F dL_law_597 (by decide) (fun c9 => ?_) (fun c9 => ?_)
  · have h := h.1 c9
    exact z_lv [0, 1, 2, 3] rfl (hJ vg_78 vs vp vy ve vc_79 vu vt vi vj vk vh vm_81 x3 h)
  · have h := h.2 c9
    refine z_iconst (v := 0) F dL_law_600 rfl ?_
    exact hret (0 : Int32) (vg_78, vs, vp, vy, ve, vc_79, vu, vt, vi, vj, vk, vh, vm_81) _ _ h dL_law_601
set_option maxRecDepth 100000 in
set_option maxHeartbeats 4000000 in
theorem mL_c16 (G : ZG) (a : Nat → Nat) (ab : Nat → Nat) (sb L : Nat) (xs : Nat → Int32) (E : ZE) (F : ZF E 4 cL_law RL wsL_law room_1 G) (X : ZX E sb L xs) (Q : Int32 → Gr → Gr → Pd → Dy → Gr → Co → Gu → Gm → Gr → Gr → Kp → Ec → Mo → Prop) (hret : ∀ (v : Int32) (u9 : Gr × Gr × Pd × Dy × Gr × Co × Gu × Gm × Gr × Gr × Kp × Ec × Mo) (lv : List (Nat × Value)) (pc : Nat), Q v u9.1 u9.2.1 u9.2.2.1 u9.2.2.2.1 u9.2.2.2.2.1 u9.2.2.2.2.2.1 u9.2.2.2.2.2.2.1 u9.2.2.2.2.2.2.2.1 u9.2.2.2.2.2.2.2.2.1 u9.2.2.2.2.2.2.2.2.2.1 u9.2.2.2.2.2.2.2.2.2.2.1 u9.2.2.2.2.2.2.2.2.2.2.2.1 u9.2.2.2.2.2.2.2.2.2.2.2.2 → decode cL_law pc = .ok (.ireturn, 1) → Z E 4 72 4457 (w_law G a ab u9.1 u9.2.1 u9.2.2.1 u9.2.2.2.1 u9.2.2.2.2.1 u9.2.2.2.2.2.1 u9.2.2.2.2.2.2.1 u9.2.2.2.2.2.2.2.1 u9.2.2.2.2.2.2.2.2.1 u9.2.2.2.2.2.2.2.2.2.1 u9.2.2.2.2.2.2.2.2.2.2.1 u9.2.2.2.2.2.2.2.2.2.2.2.1 u9.2.2.2.2.2.2.2.2.2.2.2.2) lv pc [.int v]) (K18 : Gr → Gr → Pd → Dy → Gr → Co → Gu → Gm → Gr → Gr → Kp → Ec → Mo → Int32 → Prop) (hJ : ∀ (vg : Gr) (vs : Gr) (vp : Pd) (vy : Dy) (ve : Gr) (vc : Co) (vu : Gu) (vt : Gm) (vi : Gr) (vj : Gr) (vk : Kp) (vh : Ec) (vm : Mo) (x3 : Int32), wpL_law_B1044 xs L Q K18 vg vs vp vy ve vc vu vt vi vj vk vh vm x3 → Z E 4 72 4457 (w_law G a ab vg vs vp vy ve vc vu vt vi vj vk vh vm) [(0, .ref (sb)), (1, .ref (a 0)), (2, .ref (ab 0)), (3, .int x3)] 1044 []) (vg : Gr) (vs : Gr) (vp : Pd) (vy : Dy) (ve : Gr) (vc : Co) (vu : Gu) (vt : Gm) (vi : Gr) (vj : Gr) (vk : Kp) (vh : Ec) (vm : Mo) (x3 : Int32) (h : (vp_in (x3 + (1 : Int32)) L ∧ (vp_in (x3 + (2 : Int32)) L ∧ (vp_in (x3 + (3 : Int32)) L ∧ (wpX6_whiten vg vs vc (xs ((x3 + (1 : Int32))).toNatClampNeg) (xs ((x3 + (2 : Int32))).toNatClampNeg) (xs ((x3 + (3 : Int32))).toNatClampNeg) (fun r_82 vg_83 vs_84 vc_85 => (vp_in (x3 + (1 : Int32)) L ∧ (vp_in (x3 + (2 : Int32)) L ∧ (vp_in (x3 + (3 : Int32)) L ∧ (wpX7_whiten vm (xs ((x3 + (1 : Int32))).toNatClampNeg) (xs ((x3 + (2 : Int32))).toNatClampNeg) (xs ((x3 + (3 : Int32))).toNatClampNeg) (fun r_86 vm_87 => ((r_82 = r_86 → wpL_law_B1044 xs L Q K18 vg_83 vs_84 vp vy ve vc_85 vu vt vi vj vk vh vm_87 x3) ∧ (¬ r_82 = r_86 → Q (0 : Int32) vg_83 vs_84 vp vy ve vc_85 vu vt vi vj vk vh vm_87))))))))))))) : Z E 4 72 4457 (w_law G a ab vg vs vp vy ve vc vu vt vi vj vk vh vm) [(0, .ref (sb)), (1, .ref (a 0)), (2, .ref (ab 0)), (3, .int x3)] 602 [] := by
  refine z_aload_n F dL_law_602 rfl 1 rfl ?_
  refine z_aload_n F dL_law_603 rfl 0 rfl ?_
  refine z_iload_n F dL_law_604 rfl 3 rfl ?_
  refine z_iconst (v := 1) F dL_law_605 rfl ?_
  refine z_iadd F dL_law_606 ?_
  have h9 := h.1
  have h := h.2
  refine z_sld F X h9 dL_law_607 ?_
  refine z_aload_n F dL_law_608 rfl 0 rfl ?_
  refine z_iload_n F dL_law_609 rfl 3 rfl ?_
  refine z_iconst (v := 2) F dL_law_610 rfl ?_
  refine z_iadd F dL_law_611 ?_
  have h9 := h.1
  have h := h.2
  refine z_sld F X h9 dL_law_612 ?_
  refine z_aload_n F dL_law_613 rfl 0 rfl ?_
  refine z_iload_n F dL_law_614 rfl 3 rfl ?_
  refine z_iconst (v := 3) F dL_law_615 rfl ?_
  refine z_iadd F dL_law_616 ?_
  have h9 := h.1
  have h := h.2
  refine z_sld F X h9 dL_law_617 ?_
  refine z_callVi2 (wr_S5 G a ab vp vy ve vu vt vi vj vk vh vm) (fun u9 => w_law G a ab u9.1 u9.2.1 vp vy ve u9.2.2 vu vt vi vj vk vh vm) F (mX6_whiten G a vg vs vc (xs ((x3 + (1 : Int32))).toNatClampNeg) (xs ((x3 + (2 : Int32))).toNatClampNeg) (xs ((x3 + (3 : Int32))).toNatClampNeg) _ h) gL_law_X6_whiten rfl hdX6_whiten ⟨rfl, rfl, Nat.le_of_ble_eq_true rfl, Nat.le_of_ble_eq_true rfl, Nat.le_of_ble_eq_true rfl, Nat.le_of_ble_eq_true rfl⟩ 0 rfl rfl [0, 1, 2, 3, 4, 5, 6, 7, 8, 9, 10, 11, 12, 13, 14, 15, 16, 28, 29] [17, 18, 19, 20, 21, 22, 23, 24, 25, 26, 27, 30, 31, 32, 33, 34, 35, 36, 37, 38, 39, 40, 41, 42, 43, 44, 45, 46, 47, 48, 49, 50, 51, 52, 53, 54, 55, 56, 57, 58, 59, 60, 61, 62, 63, 64, 65, 66, 67, 68, 69, 70, 71] [53, 54, 55, 56, 57, 58, 59, 60, 61, 62, 63, 64, 65, 66, 67, 68, 69, 0, 1, 2, 3, 4, 5, 6, 7, 8, 9, 10, 70, 71, 11, 12, 13, 14, 15, 16, 17, 18, 19, 20, 21, 22, 23, 24, 25, 26, 27, 28, 29, 30, 31, 32, 33, 34, 35, 36, 37, 38, 39, 40, 41, 42, 43, 44, 45, 46, 47, 48, 49, 50, 51, 52] (lc_S5_C G a ab vg vs vp vy ve vc vu vt vi vj vk vh vm) (lc_S5_R G a ab vg vs vp vy ve vc vu vt vi vj vk vh vm) lc_S5_n (fun u9 => lc_S5_P G a ab u9.1 u9.2.1 vp vy ve u9.2.2 vu vt vi vj vk vh vm) rfl (Nat.le_of_ble_eq_true rfl) dL_law_618 (fun r_82 u9 h => ?_)
  obtain ⟨vg_83, vs_84, vc_85⟩ := u9
  refine z_w (w' := w_law G a ab vg_83 vs_84 vp vy ve vc_85 vu vt vi vj vk vh vm) rfl ?_
  refine z_aload_n F dL_law_621 rfl 2 rfl ?_
  refine z_aload_n F dL_law_622 rfl 0 rfl ?_
  refine z_iload_n F dL_law_623 rfl 3 rfl ?_
  refine z_iconst (v := 1) F dL_law_624 rfl ?_
  refine z_iadd F dL_law_625 ?_
  have h9 := h.1
  have h := h.2
  refine z_sld F X h9 dL_law_626 ?_
  refine z_aload_n F dL_law_627 rfl 0 rfl ?_
  refine z_iload_n F dL_law_628 rfl 3 rfl ?_
  refine z_iconst (v := 2) F dL_law_629 rfl ?_
  refine z_iadd F dL_law_630 ?_
  have h9 := h.1
  have h := h.2
  refine z_sld F X h9 dL_law_631 ?_
  refine z_aload_n F dL_law_632 rfl 0 rfl ?_
  refine z_iload_n F dL_law_633 rfl 3 rfl ?_
  refine z_iconst (v := 3) F dL_law_634 rfl ?_
  refine z_iadd F dL_law_635 ?_
  have h9 := h.1
  have h := h.2
  refine z_sld F X h9 dL_law_636 ?_
  refine z_callVi2 (wr_S1 G a ab vg_83 vs_84 vp vy ve vc_85 vu vt vi vj vk vh) (fun u9 => w_law G a ab vg_83 vs_84 vp vy ve vc_85 vu vt vi vj vk vh u9) F (mX7_whiten G ab vm (xs ((x3 + (1 : Int32))).toNatClampNeg) (xs ((x3 + (2 : Int32))).toNatClampNeg) (xs ((x3 + (3 : Int32))).toNatClampNeg) _ h) gL_law_X7_whiten rfl hdX7_whiten ⟨rfl, rfl, Nat.le_of_ble_eq_true rfl, Nat.le_of_ble_eq_true rfl, Nat.le_of_ble_eq_true rfl, Nat.le_of_ble_eq_true rfl⟩ 55 rfl rfl [55, 56, 57, 58, 59, 60, 61, 62, 63, 64, 65, 66, 67, 68, 69, 70, 71] [0, 1, 2, 3, 4, 5, 6, 7, 8, 9, 10, 11, 12, 13, 14, 15, 16, 17, 18, 19, 20, 21, 22, 23, 24, 25, 26, 27, 28, 29, 30, 31, 32, 33, 34, 35, 36, 37, 38, 39, 40, 41, 42, 43, 44, 45, 46, 47, 48, 49, 50, 51, 52, 53, 54] [0, 1, 2, 3, 4, 5, 6, 7, 8, 9, 10, 11, 12, 13, 14, 15, 16, 17, 18, 19, 20, 21, 22, 23, 24, 25, 26, 27, 28, 29, 30, 31, 32, 33, 34, 35, 36, 37, 38, 39, 40, 41, 42, 43, 44, 45, 46, 47, 48, 49, 50, 51, 52, 53, 54, 55, 56, 57, 58, 59, 60, 61, 62, 63, 64, 65, 66, 67, 68, 69, 70, 71] (lc_S1_C G a ab vg_83 vs_84 vp vy ve vc_85 vu vt vi vj vk vh vm) (lc_S1_R G a ab vg_83 vs_84 vp vy ve vc_85 vu vt vi vj vk vh vm) lc_S1_n (fun u9 => lc_S1_P G a ab vg_83 vs_84 vp vy ve vc_85 vu vt vi vj vk vh u9) rfl (Nat.le_of_ble_eq_true rfl) dL_law_637 (fun r_86 vm_87 h => ?_)
  refine z_icmp_eq 1044 F dL_law_640 (by decide) (fun c9 => ?_) (fun c9 => ?_)
  · have h := h.1 c9
    exact z_lv [0, 1, 2, 3] rfl (hJ vg_83 vs_84 vp vy ve vc_85 vu vt vi vj vk vh vm_87 x3 h)
  · have h := h.2 c9
    refine z_iconst (v := 0) F dL_law_643 rfl ?_
    exact hret (0 : Int32) (vg_83, vs_84, vp, vy, ve, vc_85, vu, vt, vi, vj, vk, vh, vm_87) _ _ h dL_law_644
set_option maxRecDepth 100000 in
set_option maxHeartbeats 4000000 in
theorem mL_c17 (G : ZG) (a : Nat → Nat) (ab : Nat → Nat) (sb L : Nat) (xs : Nat → Int32) (E : ZE) (F : ZF E 4 cL_law RL wsL_law room_1 G) (X : ZX E sb L xs) (Q : Int32 → Gr → Gr → Pd → Dy → Gr → Co → Gu → Gm → Gr → Gr → Kp → Ec → Mo → Prop) (hret : ∀ (v : Int32) (u9 : Gr × Gr × Pd × Dy × Gr × Co × Gu × Gm × Gr × Gr × Kp × Ec × Mo) (lv : List (Nat × Value)) (pc : Nat), Q v u9.1 u9.2.1 u9.2.2.1 u9.2.2.2.1 u9.2.2.2.2.1 u9.2.2.2.2.2.1 u9.2.2.2.2.2.2.1 u9.2.2.2.2.2.2.2.1 u9.2.2.2.2.2.2.2.2.1 u9.2.2.2.2.2.2.2.2.2.1 u9.2.2.2.2.2.2.2.2.2.2.1 u9.2.2.2.2.2.2.2.2.2.2.2.1 u9.2.2.2.2.2.2.2.2.2.2.2.2 → decode cL_law pc = .ok (.ireturn, 1) → Z E 4 72 4457 (w_law G a ab u9.1 u9.2.1 u9.2.2.1 u9.2.2.2.1 u9.2.2.2.2.1 u9.2.2.2.2.2.1 u9.2.2.2.2.2.2.1 u9.2.2.2.2.2.2.2.1 u9.2.2.2.2.2.2.2.2.1 u9.2.2.2.2.2.2.2.2.2.1 u9.2.2.2.2.2.2.2.2.2.2.1 u9.2.2.2.2.2.2.2.2.2.2.2.1 u9.2.2.2.2.2.2.2.2.2.2.2.2) lv pc [.int v]) (K18 : Gr → Gr → Pd → Dy → Gr → Co → Gu → Gm → Gr → Gr → Kp → Ec → Mo → Int32 → Prop) (hJ : ∀ (vg : Gr) (vs : Gr) (vp : Pd) (vy : Dy) (ve : Gr) (vc : Co) (vu : Gu) (vt : Gm) (vi : Gr) (vj : Gr) (vk : Kp) (vh : Ec) (vm : Mo) (x3 : Int32), wpL_law_B1044 xs L Q K18 vg vs vp vy ve vc vu vt vi vj vk vh vm x3 → Z E 4 72 4457 (w_law G a ab vg vs vp vy ve vc vu vt vi vj vk vh vm) [(0, .ref (sb)), (1, .ref (a 0)), (2, .ref (ab 0)), (3, .int x3)] 1044 []) (vg : Gr) (vs : Gr) (vp : Pd) (vy : Dy) (ve : Gr) (vc : Co) (vu : Gu) (vt : Gm) (vi : Gr) (vj : Gr) (vk : Kp) (vh : Ec) (vm : Mo) (x3 : Int32) (h : (vp_in (x3 + (1 : Int32)) L ∧ (vp_in (x3 + (2 : Int32)) L ∧ (vp_in (x3 + (3 : Int32)) L ∧ (wpX6_apart vg vc vh (xs ((x3 + (1 : Int32))).toNatClampNeg) (xs ((x3 + (2 : Int32))).toNatClampNeg) (xs ((x3 + (3 : Int32))).toNatClampNeg) (fun r_88 vg_89 vc_90 vh_91 => (vp_in (x3 + (1 : Int32)) L ∧ (vp_in (x3 + (2 : Int32)) L ∧ (vp_in (x3 + (3 : Int32)) L ∧ (wpX7_apart vm (xs ((x3 + (1 : Int32))).toNatClampNeg) (xs ((x3 + (2 : Int32))).toNatClampNeg) (xs ((x3 + (3 : Int32))).toNatClampNeg) (fun r_92 vm_93 => ((r_88 = r_92 → wpL_law_B1044 xs L Q K18 vg_89 vs vp vy ve vc_90 vu vt vi vj vk vh_91 vm_93 x3) ∧ (¬ r_88 = r_92 → Q (0 : Int32) vg_89 vs vp vy ve vc_90 vu vt vi vj vk vh_91 vm_93))))))))))))) : Z E 4 72 4457 (w_law G a ab vg vs vp vy ve vc vu vt vi vj vk vh vm) [(0, .ref (sb)), (1, .ref (a 0)), (2, .ref (ab 0)), (3, .int x3)] 645 [] := by
  refine z_aload_n F dL_law_645 rfl 1 rfl ?_
  refine z_aload_n F dL_law_646 rfl 0 rfl ?_
  refine z_iload_n F dL_law_647 rfl 3 rfl ?_
  refine z_iconst (v := 1) F dL_law_648 rfl ?_
  refine z_iadd F dL_law_649 ?_
  have h9 := h.1
  have h := h.2
  refine z_sld F X h9 dL_law_650 ?_
  refine z_aload_n F dL_law_651 rfl 0 rfl ?_
  refine z_iload_n F dL_law_652 rfl 3 rfl ?_
  refine z_iconst (v := 2) F dL_law_653 rfl ?_
  refine z_iadd F dL_law_654 ?_
  have h9 := h.1
  have h := h.2
  refine z_sld F X h9 dL_law_655 ?_
  refine z_aload_n F dL_law_656 rfl 0 rfl ?_
  refine z_iload_n F dL_law_657 rfl 3 rfl ?_
  refine z_iconst (v := 3) F dL_law_658 rfl ?_
  refine z_iadd F dL_law_659 ?_
  have h9 := h.1
  have h := h.2
  refine z_sld F X h9 dL_law_660 ?_
  refine z_callVi2 (wr_S6 G a ab vs vp vy ve vu vt vi vj vk vm) (fun u9 => w_law G a ab u9.1 vs vp vy ve u9.2.1 vu vt vi vj vk u9.2.2 vm) F (mX6_apart G a vg vc vh (xs ((x3 + (1 : Int32))).toNatClampNeg) (xs ((x3 + (2 : Int32))).toNatClampNeg) (xs ((x3 + (3 : Int32))).toNatClampNeg) _ h) gL_law_X6_apart rfl hdX6_apart ⟨rfl, rfl, Nat.le_of_ble_eq_true rfl, Nat.le_of_ble_eq_true rfl, Nat.le_of_ble_eq_true rfl, Nat.le_of_ble_eq_true rfl⟩ 0 rfl rfl [0, 1, 2, 3, 4, 5, 6, 7, 8, 28, 29, 54] [9, 10, 11, 12, 13, 14, 15, 16, 17, 18, 19, 20, 21, 22, 23, 24, 25, 26, 27, 30, 31, 32, 33, 34, 35, 36, 37, 38, 39, 40, 41, 42, 43, 44, 45, 46, 47, 48, 49, 50, 51, 52, 53, 55, 56, 57, 58, 59, 60, 61, 62, 63, 64, 65, 66, 67, 68, 69, 70, 71] [60, 61, 62, 63, 64, 65, 66, 67, 68, 0, 1, 2, 3, 4, 5, 6, 7, 8, 9, 10, 11, 12, 13, 14, 15, 16, 17, 18, 69, 70, 19, 20, 21, 22, 23, 24, 25, 26, 27, 28, 29, 30, 31, 32, 33, 34, 35, 36, 37, 38, 39, 40, 41, 42, 71, 43, 44, 45, 46, 47, 48, 49, 50, 51, 52, 53, 54, 55, 56, 57, 58, 59] (lc_S6_C G a ab vg vs vp vy ve vc vu vt vi vj vk vh vm) (lc_S6_R G a ab vg vs vp vy ve vc vu vt vi vj vk vh vm) lc_S6_n (fun u9 => lc_S6_P G a ab u9.1 vs vp vy ve u9.2.1 vu vt vi vj vk u9.2.2 vm) rfl (Nat.le_of_ble_eq_true rfl) dL_law_661 (fun r_88 u9 h => ?_)
  obtain ⟨vg_89, vc_90, vh_91⟩ := u9
  refine z_w (w' := w_law G a ab vg_89 vs vp vy ve vc_90 vu vt vi vj vk vh_91 vm) rfl ?_
  refine z_aload_n F dL_law_664 rfl 2 rfl ?_
  refine z_aload_n F dL_law_665 rfl 0 rfl ?_
  refine z_iload_n F dL_law_666 rfl 3 rfl ?_
  refine z_iconst (v := 1) F dL_law_667 rfl ?_
  refine z_iadd F dL_law_668 ?_
  have h9 := h.1
  have h := h.2
  refine z_sld F X h9 dL_law_669 ?_
  refine z_aload_n F dL_law_670 rfl 0 rfl ?_
  refine z_iload_n F dL_law_671 rfl 3 rfl ?_
  refine z_iconst (v := 2) F dL_law_672 rfl ?_
  refine z_iadd F dL_law_673 ?_
  have h9 := h.1
  have h := h.2
  refine z_sld F X h9 dL_law_674 ?_
  refine z_aload_n F dL_law_675 rfl 0 rfl ?_
  refine z_iload_n F dL_law_676 rfl 3 rfl ?_
  refine z_iconst (v := 3) F dL_law_677 rfl ?_
  refine z_iadd F dL_law_678 ?_
  have h9 := h.1
  have h := h.2
  refine z_sld F X h9 dL_law_679 ?_
  refine z_callVi2 (wr_S1 G a ab vg_89 vs vp vy ve vc_90 vu vt vi vj vk vh_91) (fun u9 => w_law G a ab vg_89 vs vp vy ve vc_90 vu vt vi vj vk vh_91 u9) F (mX7_apart G ab vm (xs ((x3 + (1 : Int32))).toNatClampNeg) (xs ((x3 + (2 : Int32))).toNatClampNeg) (xs ((x3 + (3 : Int32))).toNatClampNeg) _ h) gL_law_X7_apart rfl hdX7_apart ⟨rfl, rfl, Nat.le_of_ble_eq_true rfl, Nat.le_of_ble_eq_true rfl, Nat.le_of_ble_eq_true rfl, Nat.le_of_ble_eq_true rfl⟩ 55 rfl rfl [55, 56, 57, 58, 59, 60, 61, 62, 63, 64, 65, 66, 67, 68, 69, 70, 71] [0, 1, 2, 3, 4, 5, 6, 7, 8, 9, 10, 11, 12, 13, 14, 15, 16, 17, 18, 19, 20, 21, 22, 23, 24, 25, 26, 27, 28, 29, 30, 31, 32, 33, 34, 35, 36, 37, 38, 39, 40, 41, 42, 43, 44, 45, 46, 47, 48, 49, 50, 51, 52, 53, 54] [0, 1, 2, 3, 4, 5, 6, 7, 8, 9, 10, 11, 12, 13, 14, 15, 16, 17, 18, 19, 20, 21, 22, 23, 24, 25, 26, 27, 28, 29, 30, 31, 32, 33, 34, 35, 36, 37, 38, 39, 40, 41, 42, 43, 44, 45, 46, 47, 48, 49, 50, 51, 52, 53, 54, 55, 56, 57, 58, 59, 60, 61, 62, 63, 64, 65, 66, 67, 68, 69, 70, 71] (lc_S1_C G a ab vg_89 vs vp vy ve vc_90 vu vt vi vj vk vh_91 vm) (lc_S1_R G a ab vg_89 vs vp vy ve vc_90 vu vt vi vj vk vh_91 vm) lc_S1_n (fun u9 => lc_S1_P G a ab vg_89 vs vp vy ve vc_90 vu vt vi vj vk vh_91 u9) rfl (Nat.le_of_ble_eq_true rfl) dL_law_680 (fun r_92 vm_93 h => ?_)
  refine z_icmp_eq 1044 F dL_law_683 (by decide) (fun c9 => ?_) (fun c9 => ?_)
  · have h := h.1 c9
    exact z_lv [0, 1, 2, 3] rfl (hJ vg_89 vs vp vy ve vc_90 vu vt vi vj vk vh_91 vm_93 x3 h)
  · have h := h.2 c9
    refine z_iconst (v := 0) F dL_law_686 rfl ?_
    exact hret (0 : Int32) (vg_89, vs, vp, vy, ve, vc_90, vu, vt, vi, vj, vk, vh_91, vm_93) _ _ h dL_law_687
set_option maxRecDepth 100000 in
set_option maxHeartbeats 4000000 in
theorem mL_c18 (G : ZG) (a : Nat → Nat) (ab : Nat → Nat) (sb L : Nat) (xs : Nat → Int32) (E : ZE) (F : ZF E 4 cL_law RL wsL_law room_1 G) (X : ZX E sb L xs) (Q : Int32 → Gr → Gr → Pd → Dy → Gr → Co → Gu → Gm → Gr → Gr → Kp → Ec → Mo → Prop) (hret : ∀ (v : Int32) (u9 : Gr × Gr × Pd × Dy × Gr × Co × Gu × Gm × Gr × Gr × Kp × Ec × Mo) (lv : List (Nat × Value)) (pc : Nat), Q v u9.1 u9.2.1 u9.2.2.1 u9.2.2.2.1 u9.2.2.2.2.1 u9.2.2.2.2.2.1 u9.2.2.2.2.2.2.1 u9.2.2.2.2.2.2.2.1 u9.2.2.2.2.2.2.2.2.1 u9.2.2.2.2.2.2.2.2.2.1 u9.2.2.2.2.2.2.2.2.2.2.1 u9.2.2.2.2.2.2.2.2.2.2.2.1 u9.2.2.2.2.2.2.2.2.2.2.2.2 → decode cL_law pc = .ok (.ireturn, 1) → Z E 4 72 4457 (w_law G a ab u9.1 u9.2.1 u9.2.2.1 u9.2.2.2.1 u9.2.2.2.2.1 u9.2.2.2.2.2.1 u9.2.2.2.2.2.2.1 u9.2.2.2.2.2.2.2.1 u9.2.2.2.2.2.2.2.2.1 u9.2.2.2.2.2.2.2.2.2.1 u9.2.2.2.2.2.2.2.2.2.2.1 u9.2.2.2.2.2.2.2.2.2.2.2.1 u9.2.2.2.2.2.2.2.2.2.2.2.2) lv pc [.int v]) (K18 : Gr → Gr → Pd → Dy → Gr → Co → Gu → Gm → Gr → Gr → Kp → Ec → Mo → Int32 → Prop) (hJ : ∀ (vg : Gr) (vs : Gr) (vp : Pd) (vy : Dy) (ve : Gr) (vc : Co) (vu : Gu) (vt : Gm) (vi : Gr) (vj : Gr) (vk : Kp) (vh : Ec) (vm : Mo) (x3 : Int32), wpL_law_B1044 xs L Q K18 vg vs vp vy ve vc vu vt vi vj vk vh vm x3 → Z E 4 72 4457 (w_law G a ab vg vs vp vy ve vc vu vt vi vj vk vh vm) [(0, .ref (sb)), (1, .ref (a 0)), (2, .ref (ab 0)), (3, .int x3)] 1044 []) (vg : Gr) (vs : Gr) (vp : Pd) (vy : Dy) (ve : Gr) (vc : Co) (vu : Gu) (vt : Gm) (vi : Gr) (vj : Gr) (vk : Kp) (vh : Ec) (vm : Mo) (x3 : Int32) (h : (vp_in (x3 + (1 : Int32)) L ∧ (vp_in (x3 + (2 : Int32)) L ∧ (vp_in (x3 + (3 : Int32)) L ∧ (wpX6_spoil vg vc (xs ((x3 + (1 : Int32))).toNatClampNeg) (xs ((x3 + (2 : Int32))).toNatClampNeg) (xs ((x3 + (3 : Int32))).toNatClampNeg) (fun r_94 vg_95 vc_96 => (vp_in (x3 + (1 : Int32)) L ∧ (vp_in (x3 + (2 : Int32)) L ∧ (vp_in (x3 + (3 : Int32)) L ∧ (wpX7_spoil vm (xs ((x3 + (1 : Int32))).toNatClampNeg) (xs ((x3 + (2 : Int32))).toNatClampNeg) (xs ((x3 + (3 : Int32))).toNatClampNeg) (fun r_97 vm_98 => ((r_94 = r_97 → wpL_law_B1044 xs L Q K18 vg_95 vs vp vy ve vc_96 vu vt vi vj vk vh vm_98 x3) ∧ (¬ r_94 = r_97 → Q (0 : Int32) vg_95 vs vp vy ve vc_96 vu vt vi vj vk vh vm_98))))))))))))) : Z E 4 72 4457 (w_law G a ab vg vs vp vy ve vc vu vt vi vj vk vh vm) [(0, .ref (sb)), (1, .ref (a 0)), (2, .ref (ab 0)), (3, .int x3)] 688 [] := by
  refine z_aload_n F dL_law_688 rfl 1 rfl ?_
  refine z_aload_n F dL_law_689 rfl 0 rfl ?_
  refine z_iload_n F dL_law_690 rfl 3 rfl ?_
  refine z_iconst (v := 1) F dL_law_691 rfl ?_
  refine z_iadd F dL_law_692 ?_
  have h9 := h.1
  have h := h.2
  refine z_sld F X h9 dL_law_693 ?_
  refine z_aload_n F dL_law_694 rfl 0 rfl ?_
  refine z_iload_n F dL_law_695 rfl 3 rfl ?_
  refine z_iconst (v := 2) F dL_law_696 rfl ?_
  refine z_iadd F dL_law_697 ?_
  have h9 := h.1
  have h := h.2
  refine z_sld F X h9 dL_law_698 ?_
  refine z_aload_n F dL_law_699 rfl 0 rfl ?_
  refine z_iload_n F dL_law_700 rfl 3 rfl ?_
  refine z_iconst (v := 3) F dL_law_701 rfl ?_
  refine z_iadd F dL_law_702 ?_
  have h9 := h.1
  have h := h.2
  refine z_sld F X h9 dL_law_703 ?_
  refine z_callVi2 (wr_S4 G a ab vs vp vy ve vu vt vi vj vk vh vm) (fun u9 => w_law G a ab u9.1 vs vp vy ve u9.2 vu vt vi vj vk vh vm) F (mX6_spoil G a vg vc (xs ((x3 + (1 : Int32))).toNatClampNeg) (xs ((x3 + (2 : Int32))).toNatClampNeg) (xs ((x3 + (3 : Int32))).toNatClampNeg) _ h) gL_law_X6_spoil rfl hdX6_spoil ⟨rfl, rfl, Nat.le_of_ble_eq_true rfl, Nat.le_of_ble_eq_true rfl, Nat.le_of_ble_eq_true rfl, Nat.le_of_ble_eq_true rfl⟩ 0 rfl rfl [0, 1, 2, 3, 4, 5, 6, 7, 8, 28, 29] [9, 10, 11, 12, 13, 14, 15, 16, 17, 18, 19, 20, 21, 22, 23, 24, 25, 26, 27, 30, 31, 32, 33, 34, 35, 36, 37, 38, 39, 40, 41, 42, 43, 44, 45, 46, 47, 48, 49, 50, 51, 52, 53, 54, 55, 56, 57, 58, 59, 60, 61, 62, 63, 64, 65, 66, 67, 68, 69, 70, 71] [61, 62, 63, 64, 65, 66, 67, 68, 69, 0, 1, 2, 3, 4, 5, 6, 7, 8, 9, 10, 11, 12, 13, 14, 15, 16, 17, 18, 70, 71, 19, 20, 21, 22, 23, 24, 25, 26, 27, 28, 29, 30, 31, 32, 33, 34, 35, 36, 37, 38, 39, 40, 41, 42, 43, 44, 45, 46, 47, 48, 49, 50, 51, 52, 53, 54, 55, 56, 57, 58, 59, 60] (lc_S4_C G a ab vg vs vp vy ve vc vu vt vi vj vk vh vm) (lc_S4_R G a ab vg vs vp vy ve vc vu vt vi vj vk vh vm) lc_S4_n (fun u9 => lc_S4_P G a ab u9.1 vs vp vy ve u9.2 vu vt vi vj vk vh vm) rfl (Nat.le_of_ble_eq_true rfl) dL_law_704 (fun r_94 u9 h => ?_)
  obtain ⟨vg_95, vc_96⟩ := u9
  refine z_w (w' := w_law G a ab vg_95 vs vp vy ve vc_96 vu vt vi vj vk vh vm) rfl ?_
  refine z_aload_n F dL_law_707 rfl 2 rfl ?_
  refine z_aload_n F dL_law_708 rfl 0 rfl ?_
  refine z_iload_n F dL_law_709 rfl 3 rfl ?_
  refine z_iconst (v := 1) F dL_law_710 rfl ?_
  refine z_iadd F dL_law_711 ?_
  have h9 := h.1
  have h := h.2
  refine z_sld F X h9 dL_law_712 ?_
  refine z_aload_n F dL_law_713 rfl 0 rfl ?_
  refine z_iload_n F dL_law_714 rfl 3 rfl ?_
  refine z_iconst (v := 2) F dL_law_715 rfl ?_
  refine z_iadd F dL_law_716 ?_
  have h9 := h.1
  have h := h.2
  refine z_sld F X h9 dL_law_717 ?_
  refine z_aload_n F dL_law_718 rfl 0 rfl ?_
  refine z_iload_n F dL_law_719 rfl 3 rfl ?_
  refine z_iconst (v := 3) F dL_law_720 rfl ?_
  refine z_iadd F dL_law_721 ?_
  have h9 := h.1
  have h := h.2
  refine z_sld F X h9 dL_law_722 ?_
  refine z_callVi2 (wr_S1 G a ab vg_95 vs vp vy ve vc_96 vu vt vi vj vk vh) (fun u9 => w_law G a ab vg_95 vs vp vy ve vc_96 vu vt vi vj vk vh u9) F (mX7_spoil G ab vm (xs ((x3 + (1 : Int32))).toNatClampNeg) (xs ((x3 + (2 : Int32))).toNatClampNeg) (xs ((x3 + (3 : Int32))).toNatClampNeg) _ h) gL_law_X7_spoil rfl hdX7_spoil ⟨rfl, rfl, Nat.le_of_ble_eq_true rfl, Nat.le_of_ble_eq_true rfl, Nat.le_of_ble_eq_true rfl, Nat.le_of_ble_eq_true rfl⟩ 55 rfl rfl [55, 56, 57, 58, 59, 60, 61, 62, 63, 64, 65, 66, 67, 68, 69, 70, 71] [0, 1, 2, 3, 4, 5, 6, 7, 8, 9, 10, 11, 12, 13, 14, 15, 16, 17, 18, 19, 20, 21, 22, 23, 24, 25, 26, 27, 28, 29, 30, 31, 32, 33, 34, 35, 36, 37, 38, 39, 40, 41, 42, 43, 44, 45, 46, 47, 48, 49, 50, 51, 52, 53, 54] [0, 1, 2, 3, 4, 5, 6, 7, 8, 9, 10, 11, 12, 13, 14, 15, 16, 17, 18, 19, 20, 21, 22, 23, 24, 25, 26, 27, 28, 29, 30, 31, 32, 33, 34, 35, 36, 37, 38, 39, 40, 41, 42, 43, 44, 45, 46, 47, 48, 49, 50, 51, 52, 53, 54, 55, 56, 57, 58, 59, 60, 61, 62, 63, 64, 65, 66, 67, 68, 69, 70, 71] (lc_S1_C G a ab vg_95 vs vp vy ve vc_96 vu vt vi vj vk vh vm) (lc_S1_R G a ab vg_95 vs vp vy ve vc_96 vu vt vi vj vk vh vm) lc_S1_n (fun u9 => lc_S1_P G a ab vg_95 vs vp vy ve vc_96 vu vt vi vj vk vh u9) rfl (Nat.le_of_ble_eq_true rfl) dL_law_723 (fun r_97 vm_98 h => ?_)
  refine z_icmp_eq 1044 F dL_law_726 (by decide) (fun c9 => ?_) (fun c9 => ?_)
  · have h := h.1 c9
    exact z_lv [0, 1, 2, 3] rfl (hJ vg_95 vs vp vy ve vc_96 vu vt vi vj vk vh vm_98 x3 h)
  · have h := h.2 c9
    refine z_iconst (v := 0) F dL_law_729 rfl ?_
    exact hret (0 : Int32) (vg_95, vs, vp, vy, ve, vc_96, vu, vt, vi, vj, vk, vh, vm_98) _ _ h dL_law_730
set_option maxRecDepth 100000 in
set_option maxHeartbeats 4000000 in
theorem mL_c19 (G : ZG) (a : Nat → Nat) (ab : Nat → Nat) (sb L : Nat) (xs : Nat → Int32) (E : ZE) (F : ZF E 4 cL_law RL wsL_law room_1 G) (X : ZX E sb L xs) (Q : Int32 → Gr → Gr → Pd → Dy → Gr → Co → Gu → Gm → Gr → Gr → Kp → Ec → Mo → Prop) (hret : ∀ (v : Int32) (u9 : Gr × Gr × Pd × Dy × Gr × Co × Gu × Gm × Gr × Gr × Kp × Ec × Mo) (lv : List (Nat × Value)) (pc : Nat), Q v u9.1 u9.2.1 u9.2.2.1 u9.2.2.2.1 u9.2.2.2.2.1 u9.2.2.2.2.2.1 u9.2.2.2.2.2.2.1 u9.2.2.2.2.2.2.2.1 u9.2.2.2.2.2.2.2.2.1 u9.2.2.2.2.2.2.2.2.2.1 u9.2.2.2.2.2.2.2.2.2.2.1 u9.2.2.2.2.2.2.2.2.2.2.2.1 u9.2.2.2.2.2.2.2.2.2.2.2.2 → decode cL_law pc = .ok (.ireturn, 1) → Z E 4 72 4457 (w_law G a ab u9.1 u9.2.1 u9.2.2.1 u9.2.2.2.1 u9.2.2.2.2.1 u9.2.2.2.2.2.1 u9.2.2.2.2.2.2.1 u9.2.2.2.2.2.2.2.1 u9.2.2.2.2.2.2.2.2.1 u9.2.2.2.2.2.2.2.2.2.1 u9.2.2.2.2.2.2.2.2.2.2.1 u9.2.2.2.2.2.2.2.2.2.2.2.1 u9.2.2.2.2.2.2.2.2.2.2.2.2) lv pc [.int v]) (K18 : Gr → Gr → Pd → Dy → Gr → Co → Gu → Gm → Gr → Gr → Kp → Ec → Mo → Int32 → Prop) (hJ : ∀ (vg : Gr) (vs : Gr) (vp : Pd) (vy : Dy) (ve : Gr) (vc : Co) (vu : Gu) (vt : Gm) (vi : Gr) (vj : Gr) (vk : Kp) (vh : Ec) (vm : Mo) (x3 : Int32), wpL_law_B1044 xs L Q K18 vg vs vp vy ve vc vu vt vi vj vk vh vm x3 → Z E 4 72 4457 (w_law G a ab vg vs vp vy ve vc vu vt vi vj vk vh vm) [(0, .ref (sb)), (1, .ref (a 0)), (2, .ref (ab 0)), (3, .int x3)] 1044 []) (vg : Gr) (vs : Gr) (vp : Pd) (vy : Dy) (ve : Gr) (vc : Co) (vu : Gu) (vt : Gm) (vi : Gr) (vj : Gr) (vk : Kp) (vh : Ec) (vm : Mo) (x3 : Int32) (h : (vp_in (x3 + (1 : Int32)) L ∧ (vp_in (x3 + (2 : Int32)) L ∧ (wpX6_seen vg (xs ((x3 + (1 : Int32))).toNatClampNeg) (xs ((x3 + (2 : Int32))).toNatClampNeg) (fun r_99 vg_100 => (vp_in (x3 + (1 : Int32)) L ∧ (vp_in (x3 + (2 : Int32)) L ∧ (wpX7_seen vm (xs ((x3 + (1 : Int32))).toNatClampNeg) (xs ((x3 + (2 : Int32))).toNatClampNeg) (fun r_101 vm_102 => ((r_99 = r_101 → wpL_law_B1044 xs L Q K18 vg_100 vs vp vy ve vc vu vt vi vj vk vh vm_102 x3) ∧ (¬ r_99 = r_101 → Q (0 : Int32) vg_100 vs vp vy ve vc vu vt vi vj vk vh vm_102))))))))))) : Z E 4 72 4457 (w_law G a ab vg vs vp vy ve vc vu vt vi vj vk vh vm) [(0, .ref (sb)), (1, .ref (a 0)), (2, .ref (ab 0)), (3, .int x3)] 731 [] := by
  refine z_aload_n F dL_law_731 rfl 1 rfl ?_
  refine z_aload_n F dL_law_732 rfl 0 rfl ?_
  refine z_iload_n F dL_law_733 rfl 3 rfl ?_
  refine z_iconst (v := 1) F dL_law_734 rfl ?_
  refine z_iadd F dL_law_735 ?_
  have h9 := h.1
  have h := h.2
  refine z_sld F X h9 dL_law_736 ?_
  refine z_aload_n F dL_law_737 rfl 0 rfl ?_
  refine z_iload_n F dL_law_738 rfl 3 rfl ?_
  refine z_iconst (v := 2) F dL_law_739 rfl ?_
  refine z_iadd F dL_law_740 ?_
  have h9 := h.1
  have h := h.2
  refine z_sld F X h9 dL_law_741 ?_
  refine z_callVi2 (wr_S0 G a ab vs vp vy ve vc vu vt vi vj vk vh vm) (fun u9 => w_law G a ab u9 vs vp vy ve vc vu vt vi vj vk vh vm) F (mX6_seen G a vg (xs ((x3 + (1 : Int32))).toNatClampNeg) (xs ((x3 + (2 : Int32))).toNatClampNeg) _ h) gL_law_X6_seen rfl hdX6_seen ⟨rfl, rfl, Nat.le_of_ble_eq_true rfl, Nat.le_of_ble_eq_true rfl, Nat.le_of_ble_eq_true rfl, Nat.le_of_ble_eq_true rfl⟩ 0 rfl rfl [0, 1, 2, 3, 4, 5, 6, 7, 8] [9, 10, 11, 12, 13, 14, 15, 16, 17, 18, 19, 20, 21, 22, 23, 24, 25, 26, 27, 28, 29, 30, 31, 32, 33, 34, 35, 36, 37, 38, 39, 40, 41, 42, 43, 44, 45, 46, 47, 48, 49, 50, 51, 52, 53, 54, 55, 56, 57, 58, 59, 60, 61, 62, 63, 64, 65, 66, 67, 68, 69, 70, 71] [63, 64, 65, 66, 67, 68, 69, 70, 71, 0, 1, 2, 3, 4, 5, 6, 7, 8, 9, 10, 11, 12, 13, 14, 15, 16, 17, 18, 19, 20, 21, 22, 23, 24, 25, 26, 27, 28, 29, 30, 31, 32, 33, 34, 35, 36, 37, 38, 39, 40, 41, 42, 43, 44, 45, 46, 47, 48, 49, 50, 51, 52, 53, 54, 55, 56, 57, 58, 59, 60, 61, 62] (lc_S0_C G a ab vg vs vp vy ve vc vu vt vi vj vk vh vm) (lc_S0_R G a ab vg vs vp vy ve vc vu vt vi vj vk vh vm) lc_S0_n (fun u9 => lc_S0_P G a ab u9 vs vp vy ve vc vu vt vi vj vk vh vm) rfl (Nat.le_of_ble_eq_true rfl) dL_law_742 (fun r_99 vg_100 h => ?_)
  refine z_aload_n F dL_law_745 rfl 2 rfl ?_
  refine z_aload_n F dL_law_746 rfl 0 rfl ?_
  refine z_iload_n F dL_law_747 rfl 3 rfl ?_
  refine z_iconst (v := 1) F dL_law_748 rfl ?_
  refine z_iadd F dL_law_749 ?_
  have h9 := h.1
  have h := h.2
  refine z_sld F X h9 dL_law_750 ?_
  refine z_aload_n F dL_law_751 rfl 0 rfl ?_
  refine z_iload_n F dL_law_752 rfl 3 rfl ?_
  refine z_iconst (v := 2) F dL_law_753 rfl ?_
  refine z_iadd F dL_law_754 ?_
  have h9 := h.1
  have h := h.2
  refine z_sld F X h9 dL_law_755 ?_
  refine z_callVi2 (wr_S1 G a ab vg_100 vs vp vy ve vc vu vt vi vj vk vh) (fun u9 => w_law G a ab vg_100 vs vp vy ve vc vu vt vi vj vk vh u9) F (mX7_seen G ab vm (xs ((x3 + (1 : Int32))).toNatClampNeg) (xs ((x3 + (2 : Int32))).toNatClampNeg) _ h) gL_law_X7_seen rfl hdX7_seen ⟨rfl, rfl, Nat.le_of_ble_eq_true rfl, Nat.le_of_ble_eq_true rfl, Nat.le_of_ble_eq_true rfl, Nat.le_of_ble_eq_true rfl⟩ 55 rfl rfl [55, 56, 57, 58, 59, 60, 61, 62, 63, 64, 65, 66, 67, 68, 69, 70, 71] [0, 1, 2, 3, 4, 5, 6, 7, 8, 9, 10, 11, 12, 13, 14, 15, 16, 17, 18, 19, 20, 21, 22, 23, 24, 25, 26, 27, 28, 29, 30, 31, 32, 33, 34, 35, 36, 37, 38, 39, 40, 41, 42, 43, 44, 45, 46, 47, 48, 49, 50, 51, 52, 53, 54] [0, 1, 2, 3, 4, 5, 6, 7, 8, 9, 10, 11, 12, 13, 14, 15, 16, 17, 18, 19, 20, 21, 22, 23, 24, 25, 26, 27, 28, 29, 30, 31, 32, 33, 34, 35, 36, 37, 38, 39, 40, 41, 42, 43, 44, 45, 46, 47, 48, 49, 50, 51, 52, 53, 54, 55, 56, 57, 58, 59, 60, 61, 62, 63, 64, 65, 66, 67, 68, 69, 70, 71] (lc_S1_C G a ab vg_100 vs vp vy ve vc vu vt vi vj vk vh vm) (lc_S1_R G a ab vg_100 vs vp vy ve vc vu vt vi vj vk vh vm) lc_S1_n (fun u9 => lc_S1_P G a ab vg_100 vs vp vy ve vc vu vt vi vj vk vh u9) rfl (Nat.le_of_ble_eq_true rfl) dL_law_756 (fun r_101 vm_102 h => ?_)
  refine z_icmp_eq 1044 F dL_law_759 (by decide) (fun c9 => ?_) (fun c9 => ?_)
  · have h := h.1 c9
    exact z_lv [0, 1, 2, 3] rfl (hJ vg_100 vs vp vy ve vc vu vt vi vj vk vh vm_102 x3 h)
  · have h := h.2 c9
    refine z_iconst (v := 0) F dL_law_762 rfl ?_
    exact hret (0 : Int32) (vg_100, vs, vp, vy, ve, vc, vu, vt, vi, vj, vk, vh, vm_102) _ _ h dL_law_763
