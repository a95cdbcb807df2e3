set_option maxRecDepth 100000 in
set_option maxHeartbeats 4000000 in
theorem mL_c20 (G : ZG) (a : Nat → Nat) (ab : Nat → Nat) (sb L : Nat) (xs : Nat → Int32) (E : ZE) (F : ZF E 4 cL_law RL wsL_law room_1 G) (X : ZX E sb L xs) (Q : Int32 → Gr → Gr → Pd → Dy → Gr → Co → Gu → Gm → Gr → Gr → Kp → Ec → Mo → Prop) (hret : ∀ (v : Int32) (u9 : Gr × Gr × Pd × Dy × Gr × Co × Gu × Gm × Gr × Gr × Kp × Ec × Mo) (lv : List (Nat × Value)) (pc : Nat), Q v u9.1 u9.2.1 u9.2.2.1 u9.2.2.2.1 u9.2.2.2.2.1 u9.2.2.2.2.2.1 u9.2.2.2.2.2.2.1 u9.2.2.2.2.2.2.2.1 u9.2.2.2.2.2.2.2.2.1 u9.2.2.2.2.2.2.2.2.2.1 u9.2.2.2.2.2.2.2.2.2.2.1 u9.2.2.2.2.2.2.2.2.2.2.2.1 u9.2.2.2.2.2.2.2.2.2.2.2.2 → decode cL_law pc = .ok (.ireturn, 1) → Z E 4 72 4457 (w_law G a ab u9.1 u9.2.1 u9.2.2.1 u9.2.2.2.1 u9.2.2.2.2.1 u9.2.2.2.2.2.1 u9.2.2.2.2.2.2.1 u9.2.2.2.2.2.2.2.1 u9.2.2.2.2.2.2.2.2.1 u9.2.2.2.2.2.2.2.2.2.1 u9.2.2.2.2.2.2.2.2.2.2.1 u9.2.2.2.2.2.2.2.2.2.2.2.1 u9.2.2.2.2.2.2.2.2.2.2.2.2) lv pc [.int v]) (K18 : Gr → Gr → Pd → Dy → Gr → Co → Gu → Gm → Gr → Gr → Kp → Ec → Mo → Int32 → Prop) (hJ : ∀ (vg : Gr) (vs : Gr) (vp : Pd) (vy : Dy) (ve : Gr) (vc : Co) (vu : Gu) (vt : Gm) (vi : Gr) (vj : Gr) (vk : Kp) (vh : Ec) (vm : Mo) (x3 : Int32), wpL_law_B1044 xs L Q K18 vg vs vp vy ve vc vu vt vi vj vk vh vm x3 → Z E 4 72 4457 (w_law G a ab vg vs vp vy ve vc vu vt vi vj vk vh vm) [(0, .ref (sb)), (1, .ref (a 0)), (2, .ref (ab 0)), (3, .int x3)] 1044 []) (vg : Gr) (vs : Gr) (vp : Pd) (vy : Dy) (ve : Gr) (vc : Co) (vu : Gu) (vt : Gm) (vi : Gr) (vj : Gr) (vk : Kp) (vh : Ec) (vm : Mo) (x3 : Int32) (h : (wpX6_forget vg (fun r_103 vg_104 => (wpX7_forget vm (fun r_105 vm_106 => ((r_103 = r_105 → wpL_law_B1044 xs L Q K18 vg_104 vs vp vy ve vc vu vt vi vj vk vh vm_106 x3) ∧ (¬ r_103 = r_105 → Q (0 : Int32) vg_104 vs vp vy ve vc vu vt vi vj vk vh vm_106))))))) : Z E 4 72 4457 (w_law G a ab vg vs vp vy ve vc vu vt vi vj vk vh vm) [(0, .ref (sb)), (1, .ref (a 0)), (2, .ref (ab 0)), (3, .int x3)] 764 [] := by
  refine z_aload_n F dL_law_764 rfl 1 rfl ?_
  refine z_callVi2 (wr_S0 G a ab vs vp vy ve vc vu vt vi vj vk vh vm) (fun u9 => w_law G a ab u9 vs vp vy ve vc vu vt vi vj vk vh vm) F (mX6_forget G a vg _ h) gL_law_X6_forget rfl hdX6_forget ⟨rfl, rfl, Nat.le_of_ble_eq_true rfl, Nat.le_of_ble_eq_true rfl, Nat.le_of_ble_eq_true rfl, Nat.le_of_ble_eq_true rfl⟩ 0 rfl rfl [0, 1, 2, 3, 4, 5, 6, 7, 8] [9, 10, 11, 12, 13, 14, 15, 16, 17, 18, 19, 20, 21, 22, 23, 24, 25, 26, 27, 28, 29, 30, 31, 32, 33, 34, 35, 36, 37, 38, 39, 40, 41, 42, 43, 44, 45, 46, 47, 48, 49, 50, 51, 52, 53, 54, 55, 56, 57, 58, 59, 60, 61, 62, 63, 64, 65, 66, 67, 68, 69, 70, 71] [63, 64, 65, 66, 67, 68, 69, 70, 71, 0, 1, 2, 3, 4, 5, 6, 7, 8, 9, 10, 11, 12, 13, 14, 15, 16, 17, 18, 19, 20, 21, 22, 23, 24, 25, 26, 27, 28, 29, 30, 31, 32, 33, 34, 35, 36, 37, 38, 39, 40, 41, 42, 43, 44, 45, 46, 47, 48, 49, 50, 51, 52, 53, 54, 55, 56, 57, 58, 59, 60, 61, 62] (lc_S0_C G a ab vg vs vp vy ve vc vu vt vi vj vk vh vm) (lc_S0_R G a ab vg vs vp vy ve vc vu vt vi vj vk vh vm) lc_S0_n (fun u9 => lc_S0_P G a ab u9 vs vp vy ve vc vu vt vi vj vk vh vm) rfl (Nat.le_of_ble_eq_true rfl) dL_law_765 (fun r_103 vg_104 h => ?_)
  refine z_aload_n F dL_law_768 rfl 2 rfl ?_
  refine z_callVi2 (wr_S1 G a ab vg_104 vs vp vy ve vc vu vt vi vj vk vh) (fun u9 => w_law G a ab vg_104 vs vp vy ve vc vu vt vi vj vk vh u9) F (mX7_forget G ab vm _ h) gL_law_X7_forget rfl hdX7_forget ⟨rfl, rfl, Nat.le_of_ble_eq_true rfl, Nat.le_of_ble_eq_true rfl, Nat.le_of_ble_eq_true rfl, Nat.le_of_ble_eq_true rfl⟩ 55 rfl rfl [55, 56, 57, 58, 59, 60, 61, 62, 63, 64, 65, 66, 67, 68, 69, 70, 71] [0, 1, 2, 3, 4, 5, 6, 7, 8, 9, 10, 11, 12, 13, 14, 15, 16, 17, 18, 19, 20, 21, 22, 23, 24, 25, 26, 27, 28, 29, 30, 31, 32, 33, 34, 35, 36, 37, 38, 39, 40, 41, 42, 43, 44, 45, 46, 47, 48, 49, 50, 51, 52, 53, 54] [0, 1, 2, 3, 4, 5, 6, 7, 8, 9, 10, 11, 12, 13, 14, 15, 16, 17, 18, 19, 20, 21, 22, 23, 24, 25, 26, 27, 28, 29, 30, 31, 32, 33, 34, 35, 36, 37, 38, 39, 40, 41, 42, 43, 44, 45, 46, 47, 48, 49, 50, 51, 52, 53, 54, 55, 56, 57, 58, 59, 60, 61, 62, 63, 64, 65, 66, 67, 68, 69, 70, 71] (lc_S1_C G a ab vg_104 vs vp vy ve vc vu vt vi vj vk vh vm) (lc_S1_R G a ab vg_104 vs vp vy ve vc vu vt vi vj vk vh vm) lc_S1_n (fun u9 => lc_S1_P G a ab vg_104 vs vp vy ve vc vu vt vi vj vk vh u9) rfl (Nat.le_of_ble_eq_true rfl) dL_law_769 (fun r_105 vm_106 h => ?_)
  refine z_icmp_eq 1044 F dL_law_772 (by decide) (fun c9 => ?_) (fun c9 => ?_)
  · have h := h.1 c9
    exact z_lv [0, 1, 2, 3] rfl (hJ vg_104 vs vp vy ve vc vu vt vi vj vk vh vm_106 x3 h)
  · have h := h.2 c9
    refine z_iconst (v := 0) F dL_law_775 rfl ?_
    exact hret (0 : Int32) (vg_104, vs, vp, vy, ve, vc, vu, vt, vi, vj, vk, vh, vm_106) _ _ h dL_law_776
set_option maxRecDepth 100000 in
set_option maxHeartbeats 4000000 in
theorem mL_c21 (G : ZG) (a : Nat → Nat) (ab : Nat → Nat) (sb L : Nat) (xs : Nat → Int32) (E : ZE) (F : ZF E 4 cL_law RL wsL_law room_1 G) (X : ZX E sb L xs) (Q : Int32 → Gr → Gr → Pd → Dy → Gr → Co → Gu → Gm → Gr → Gr → Kp → Ec → Mo → Prop) (hret : ∀ (v : Int32) (u9 : Gr × Gr × Pd × Dy × Gr × Co × Gu × Gm × Gr × Gr × Kp × Ec × Mo) (lv : List (Nat × Value)) (pc : Nat), Q v u9.1 u9.2.1 u9.2.2.1 u9.2.2.2.1 u9.2.2.2.2.1 u9.2.2.2.2.2.1 u9.2.2.2.2.2.2.1 u9.2.2.2.2.2.2.2.1 u9.2.2.2.2.2.2.2.2.1 u9.2.2.2.2.2.2.2.2.2.1 u9.2.2.2.2.2.2.2.2.2.2.1 u9.2.2.2.2.2.2.2.2.2.2.2.1 u9.2.2.2.2.2.2.2.2.2.2.2.2 → decode cL_law pc = .ok (.ireturn, 1) → Z E 4 72 4457 (w_law G a ab u9.1 u9.2.1 u9.2.2.1 u9.2.2.2.1 u9.2.2.2.2.1 u9.2.2.2.2.2.1 u9.2.2.2.2.2.2.1 u9.2.2.2.2.2.2.2.1 u9.2.2.2.2.2.2.2.2.1 u9.2.2.2.2.2.2.2.2.2.1 u9.2.2.2.2.2.2.2.2.2.2.1 u9.2.2.2.2.2.2.2.2.2.2.2.1 u9.2.2.2.2.2.2.2.2.2.2.2.2) lv pc [.int v]) (K18 : Gr → Gr → Pd → Dy → Gr → Co → Gu → Gm → Gr → Gr → Kp → Ec → Mo → Int32 → Prop) (hJ : ∀ (vg : Gr) (vs : Gr) (vp : Pd) (vy : Dy) (ve : Gr) (vc : Co) (vu : Gu) (vt : Gm) (vi : Gr) (vj : Gr) (vk : Kp) (vh : Ec) (vm : Mo) (x3 : Int32), wpL_law_B1044 xs L Q K18 vg vs vp vy ve vc vu vt vi vj vk vh vm x3 → Z E 4 72 4457 (w_law G a ab vg vs vp vy ve vc vu vt vi vj vk vh vm) [(0, .ref (sb)), (1, .ref (a 0)), (2, .ref (ab 0)), (3, .int x3)] 1044 []) (vg : Gr) (vs : Gr) (vp : Pd) (vy : Dy) (ve : Gr) (vc : Co) (vu : Gu) (vt : Gm) (vi : Gr) (vj : Gr) (vk : Kp) (vh : Ec) (vm : Mo) (x3 : Int32) (h : (vp_in (x3 + (1 : Int32)) L ∧ (wpX6_shown vg vc vu (xs ((x3 + (1 : Int32))).toNatClampNeg) (fun r_107 vg_108 vc_109 vu_110 => (vp_in (x3 + (1 : Int32)) L ∧ (wpX7_shown vm (xs ((x3 + (1 : Int32))).toNatClampNeg) (fun r_111 vm_112 => ((r_107 = r_111 → wpL_law_B1044 xs L Q K18 vg_108 vs vp vy ve vc_109 vu_110 vt vi vj vk vh vm_112 x3) ∧ (¬ r_107 = r_111 → Q (0 : Int32) vg_108 vs vp vy ve vc_109 vu_110 vt vi vj vk vh vm_112))))))))) : Z E 4 72 4457 (w_law G a ab vg vs vp vy ve vc vu vt vi vj vk vh vm) [(0, .ref (sb)), (1, .ref (a 0)), (2, .ref (ab 0)), (3, .int x3)] 777 [] := by
  refine z_aload_n F dL_law_777 rfl 1 rfl ?_
  refine z_aload_n F dL_law_778 rfl 0 rfl ?_
  refine z_iload_n F dL_law_779 rfl 3 rfl ?_
  refine z_iconst (v := 1) F dL_law_780 rfl ?_
  refine z_iadd F dL_law_781 ?_
  have h9 := h.1
  have h := h.2
  refine z_sld F X h9 dL_law_782 ?_
  refine z_callVi2 (wr_S7 G a ab vs vp vy ve vt vi vj vk vh vm) (fun u9 => w_law G a ab u9.1 vs vp vy ve u9.2.1 u9.2.2 vt vi vj vk vh vm) F (mX6_shown G a vg vc vu (xs ((x3 + (1 : Int32))).toNatClampNeg) _ h) gL_law_X6_shown rfl hdX6_shown ⟨rfl, rfl, Nat.le_of_ble_eq_true rfl, Nat.le_of_ble_eq_true rfl, Nat.le_of_ble_eq_true rfl, Nat.le_of_ble_eq_true rfl⟩ 0 rfl rfl [0, 1, 2, 3, 4, 5, 6, 7, 8, 28, 29, 30, 31, 32, 33] [9, 10, 11, 12, 13, 14, 15, 16, 17, 18, 19, 20, 21, 22, 23, 24, 25, 26, 27, 34, 35, 36, 37, 38, 39, 40, 41, 42, 43, 44, 45, 46, 47, 48, 49, 50, 51, 52, 53, 54, 55, 56, 57, 58, 59, 60, 61, 62, 63, 64, 65, 66, 67, 68, 69, 70, 71] [57, 58, 59, 60, 61, 62, 63, 64, 65, 0, 1, 2, 3, 4, 5, 6, 7, 8, 9, 10, 11, 12, 13, 14, 15, 16, 17, 18, 66, 67, 68, 69, 70, 71, 19, 20, 21, 22, 23, 24, 25, 26, 27, 28, 29, 30, 31, 32, 33, 34, 35, 36, 37, 38, 39, 40, 41, 42, 43, 44, 45, 46, 47, 48, 49, 50, 51, 52, 53, 54, 55, 56] (lc_S7_C G a ab vg vs vp vy ve vc vu vt vi vj vk vh vm) (lc_S7_R G a ab vg vs vp vy ve vc vu vt vi vj vk vh vm) lc_S7_n (fun u9 => lc_S7_P G a ab u9.1 vs vp vy ve u9.2.1 u9.2.2 vt vi vj vk vh vm) rfl (Nat.le_of_ble_eq_true rfl) dL_law_783 (fun r_107 u9 h => ?_)
  obtain ⟨vg_108, vc_109, vu_110⟩ := u9
  refine z_w (w' := w_law G a ab vg_108 vs vp vy ve vc_109 vu_110 vt vi vj vk vh vm) rfl ?_
  refine z_aload_n F dL_law_786 rfl 2 rfl ?_
  refine z_aload_n F dL_law_787 rfl 0 rfl ?_
  refine z_iload_n F dL_law_788 rfl 3 rfl ?_
  refine z_iconst (v := 1) F dL_law_789 rfl ?_
  refine z_iadd F dL_law_790 ?_
  have h9 := h.1
  have h := h.2
  refine z_sld F X h9 dL_law_791 ?_
  refine z_callVi2 (wr_S1 G a ab vg_108 vs vp vy ve vc_109 vu_110 vt vi vj vk vh) (fun u9 => w_law G a ab vg_108 vs vp vy ve vc_109 vu_110 vt vi vj vk vh u9) F (mX7_shown G ab vm (xs ((x3 + (1 : Int32))).toNatClampNeg) _ h) gL_law_X7_shown rfl hdX7_shown ⟨rfl, rfl, Nat.le_of_ble_eq_true rfl, Nat.le_of_ble_eq_true rfl, Nat.le_of_ble_eq_true rfl, Nat.le_of_ble_eq_true rfl⟩ 55 rfl rfl [55, 56, 57, 58, 59, 60, 61, 62, 63, 64, 65, 66, 67, 68, 69, 70, 71] [0, 1, 2, 3, 4, 5, 6, 7, 8, 9, 10, 11, 12, 13, 14, 15, 16, 17, 18, 19, 20, 21, 22, 23, 24, 25, 26, 27, 28, 29, 30, 31, 32, 33, 34, 35, 36, 37, 38, 39, 40, 41, 42, 43, 44, 45, 46, 47, 48, 49, 50, 51, 52, 53, 54] [0, 1, 2, 3, 4, 5, 6, 7, 8, 9, 10, 11, 12, 13, 14, 15, 16, 17, 18, 19, 20, 21, 22, 23, 24, 25, 26, 27, 28, 29, 30, 31, 32, 33, 34, 35, 36, 37, 38, 39, 40, 41, 42, 43, 44, 45, 46, 47, 48, 49, 50, 51, 52, 53, 54, 55, 56, 57, 58, 59, 60, 61, 62, 63, 64, 65, 66, 67, 68, 69, 70, 71] (lc_S1_C G a ab vg_108 vs vp vy ve vc_109 vu_110 vt vi vj vk vh vm) (lc_S1_R G a ab vg_108 vs vp vy ve vc_109 vu_110 vt vi vj vk vh vm) lc_S1_n (fun u9 => lc_S1_P G a ab vg_108 vs vp vy ve vc_109 vu_110 vt vi vj vk vh u9) rfl (Nat.le_of_ble_eq_true rfl) dL_law_792 (fun r_111 vm_112 h => ?_)
  refine z_icmp_eq 1044 F dL_law_795 (by decide) (fun c9 => ?_) (fun c9 => ?_)
  · have h := h.1 c9
    exact z_lv [0, 1, 2, 3] rfl (hJ vg_108 vs vp vy ve vc_109 vu_110 vt vi vj vk vh vm_112 x3 h)
  · have h := h.2 c9
    refine z_iconst (v := 0) F dL_law_798 rfl ?_
    exact hret (0 : Int32) (vg_108, vs, vp, vy, ve, vc_109, vu_110, vt, vi, vj, vk, vh, vm_112) _ _ h dL_law_799
set_option maxRecDepth 100000 in
set_option maxHeartbeats 4000000 in
theorem mL_c22 (G : ZG) (a : Nat → Nat) (ab : Nat → Nat) (sb L : Nat) (xs : Nat → Int32) (E : ZE) (F : ZF E 4 cL_law RL wsL_law room_1 G) (X : ZX E sb L xs) (Q : Int32 → Gr → Gr → Pd → Dy → Gr → Co → Gu → Gm → Gr → Gr → Kp → Ec → Mo → Prop) (hret : ∀ (v : Int32) (u9 : Gr × Gr × Pd × Dy × Gr × Co × Gu × Gm × Gr × Gr × Kp × Ec × Mo) (lv : List (Nat × Value)) (pc : Nat), Q v u9.1 u9.2.1 u9.2.2.1 u9.2.2.2.1 u9.2.2.2.2.1 u9.2.2.2.2.2.1 u9.2.2.2.2.2.2.1 u9.2.2.2.2.2.2.2.1 u9.2.2.2.2.2.2.2.2.1 u9.2.2.2.2.2.2.2.2.2.1 u9.2.2.2.2.2.2.2.2.2.2.1 u9.2.2.2.2.2.2.2.2.2.2.2.1 u9.2.2.2.2.2.2.2.2.2.2.2.2 → decode cL_law pc = .ok (.ireturn, 1) → Z E 4 72 4457 (w_law G a ab u9.1 u9.2.1 u9.2.2.1 u9.2.2.2.1 u9.2.2.2.2.1 u9.2.2.2.2.2.1 u9.2.2.2.2.2.2.1 u9.2.2.2.2.2.2.2.1 u9.2.2.2.2.2.2.2.2.1 u9.2.2.2.2.2.2.2.2.2.1 u9.2.2.2.2.2.2.2.2.2.2.1 u9.2.2.2.2.2.2.2.2.2.2.2.1 u9.2.2.2.2.2.2.2.2.2.2.2.2) lv pc [.int v]) (K18 : Gr → Gr → Pd → Dy → Gr → Co → Gu → Gm → Gr → Gr → Kp → Ec → Mo → Int32 → Prop) (hJ : ∀ (vg : Gr) (vs : Gr) (vp : Pd) (vy : Dy) (ve : Gr) (vc : Co) (vu : Gu) (vt : Gm) (vi : Gr) (vj : Gr) (vk : Kp) (vh : Ec) (vm : Mo) (x3 : Int32), wpL_law_B1044 xs L Q K18 vg vs vp vy ve vc vu vt vi vj vk vh vm x3 → Z E 4 72 4457 (w_law G a ab vg vs vp vy ve vc vu vt vi vj vk vh vm) [(0, .ref (sb)), (1, .ref (a 0)), (2, .ref (ab 0)), (3, .int x3)] 1044 []) (vg : Gr) (vs : Gr) (vp : Pd) (vy : Dy) (ve : Gr) (vc : Co) (vu : Gu) (vt : Gm) (vi : Gr) (vj : Gr) (vk : Kp) (vh : Ec) (vm : Mo) (x3 : Int32) (h : (vp_in (x3 + (1 : Int32)) L ∧ (wpX6_look vg vc vu (xs ((x3 + (1 : Int32))).toNatClampNeg) (fun r_113 vg_114 vc_115 vu_116 => (vp_in (x3 + (1 : Int32)) L ∧ (wpX7_look vm (xs ((x3 + (1 : Int32))).toNatClampNeg) (fun r_117 vm_118 => ((r_113 = r_117 → wpL_law_B1044 xs L Q K18 vg_114 vs vp vy ve vc_115 vu_116 vt vi vj vk vh vm_118 x3) ∧ (¬ r_113 = r_117 → Q (0 : Int32) vg_114 vs vp vy ve vc_115 vu_116 vt vi vj vk vh vm_118))))))))) : Z E 4 72 4457 (w_law G a ab vg vs vp vy ve vc vu vt vi vj vk vh vm) [(0, .ref (sb)), (1, .ref (a 0)), (2, .ref (ab 0)), (3, .int x3)] 800 [] := by
  refine z_aload_n F dL_law_800 rfl 1 rfl ?_
  refine z_aload_n F dL_law_801 rfl 0 rfl ?_
  refine z_iload_n F dL_law_802 rfl 3 rfl ?_
  refine z_iconst (v := 1) F dL_law_803 rfl ?_
  refine z_iadd F dL_law_804 ?_
  have h9 := h.1
  have h := h.2
  refine z_sld F X h9 dL_law_805 ?_
  refine z_callVi2 (wr_S7 G a ab vs vp vy ve vt vi vj vk vh vm) (fun u9 => w_law G a ab u9.1 vs vp vy ve u9.2.1 u9.2.2 vt vi vj vk vh vm) F (mX6_look G a vg vc vu (xs ((x3 + (1 : Int32))).toNatClampNeg) _ h) gL_law_X6_look rfl hdX6_look ⟨rfl, rfl, Nat.le_of_ble_eq_true rfl, Nat.le_of_ble_eq_true rfl, Nat.le_of_ble_eq_true rfl, Nat.le_of_ble_eq_true rfl⟩ 0 rfl rfl [0, 1, 2, 3, 4, 5, 6, 7, 8, 28, 29, 30, 31, 32, 33] [9, 10, 11, 12, 13, 14, 15, 16, 17, 18, 19, 20, 21, 22, 23, 24, 25, 26, 27, 34, 35, 36, 37, 38, 39, 40, 41, 42, 43, 44, 45, 46, 47, 48, 49, 50, 51, 52, 53, 54, 55, 56, 57, 58, 59, 60, 61, 62, 63, 64, 65, 66, 67, 68, 69, 70, 71] [57, 58, 59, 60, 61, 62, 63, 64, 65, 0, 1, 2, 3, 4, 5, 6, 7, 8, 9, 10, 11, 12, 13, 14, 15, 16, 17, 18, 66, 67, 68, 69, 70, 71, 19, 20, 21, 22, 23, 24, 25, 26, 27, 28, 29, 30, 31, 32, 33, 34, 35, 36, 37, 38, 39, 40, 41, 42, 43, 44, 45, 46, 47, 48, 49, 50, 51, 52, 53, 54, 55, 56] (lc_S7_C G a ab vg vs vp vy ve vc vu vt vi vj vk vh vm) (lc_S7_R G a ab vg vs vp vy ve vc vu vt vi vj vk vh vm) lc_S7_n (fun u9 => lc_S7_P G a ab u9.1 vs vp vy ve u9.2.1 u9.2.2 vt vi vj vk vh vm) rfl (Nat.le_of_ble_eq_true rfl) dL_law_806 (fun r_113 u9 h => ?_)
  obtain ⟨vg_114, vc_115, vu_116⟩ := u9
  refine z_w (w' := w_law G a ab vg_114 vs vp vy ve vc_115 vu_116 vt vi vj vk vh vm) rfl ?_
  refine z_aload_n F dL_law_809 rfl 2 rfl ?_
  refine z_aload_n F dL_law_810 rfl 0 rfl ?_
  refine z_iload_n F dL_law_811 rfl 3 rfl ?_
  refine z_iconst (v := 1) F dL_law_812 rfl ?_
  refine z_iadd F dL_law_813 ?_
  have h9 := h.1
  have h := h.2
  refine z_sld F X h9 dL_law_814 ?_
  refine z_callVi2 (wr_S1 G a ab vg_114 vs vp vy ve vc_115 vu_116 vt vi vj vk vh) (fun u9 => w_law G a ab vg_114 vs vp vy ve vc_115 vu_116 vt vi vj vk vh u9) F (mX7_look G ab vm (xs ((x3 + (1 : Int32))).toNatClampNeg) _ h) gL_law_X7_look rfl hdX7_look ⟨rfl, rfl, Nat.le_of_ble_eq_true rfl, Nat.le_of_ble_eq_true rfl, Nat.le_of_ble_eq_true rfl, Nat.le_of_ble_eq_true rfl⟩ 55 rfl rfl [55, 56, 57, 58, 59, 60, 61, 62, 63, 64, 65, 66, 67, 68, 69, 70, 71] [0, 1, 2, 3, 4, 5, 6, 7, 8, 9, 10, 11, 12, 13, 14, 15, 16, 17, 18, 19, 20, 21, 22, 23, 24, 25, 26, 27, 28, 29, 30, 31, 32, 33, 34, 35, 36, 37, 38, 39, 40, 41, 42, 43, 44, 45, 46, 47, 48, 49, 50, 51, 52, 53, 54] [0, 1, 2, 3, 4, 5, 6, 7, 8, 9, 10, 11, 12, 13, 14, 15, 16, 17, 18, 19, 20, 21, 22, 23, 24, 25, 26, 27, 28, 29, 30, 31, 32, 33, 34, 35, 36, 37, 38, 39, 40, 41, 42, 43, 44, 45, 46, 47, 48, 49, 50, 51, 52, 53, 54, 55, 56, 57, 58, 59, 60, 61, 62, 63, 64, 65, 66, 67, 68, 69, 70, 71] (lc_S1_C G a ab vg_114 vs vp vy ve vc_115 vu_116 vt vi vj vk vh vm) (lc_S1_R G a ab vg_114 vs vp vy ve vc_115 vu_116 vt vi vj vk vh vm) lc_S1_n (fun u9 => lc_S1_P G a ab vg_114 vs vp vy ve vc_115 vu_116 vt vi vj vk vh u9) rfl (Nat.le_of_ble_eq_true rfl) dL_law_815 (fun r_117 vm_118 h => ?_)
  refine z_icmp_eq 1044 F dL_law_818 (by decide) (fun c9 => ?_) (fun c9 => ?_)
  · have h := h.1 c9
    exact z_lv [0, 1, 2, 3] rfl (hJ vg_114 vs vp vy ve vc_115 vu_116 vt vi vj vk vh vm_118 x3 h)
  · have h := h.2 c9
    refine z_iconst (v := 0) F dL_law_821 rfl ?_
    exact hret (0 : Int32) (vg_114, vs, vp, vy, ve, vc_115, vu_116, vt, vi, vj, vk, vh, vm_118) _ _ h dL_law_822
set_option maxRecDepth 100000 in
set_option maxHeartbeats 4000000 in
theorem mL_c23 (G : ZG) (a : Nat → Nat) (ab : Nat → Nat) (sb L : Nat) (xs : Nat → Int32) (E : ZE) (F : ZF E 4 cL_law RL wsL_law room_1 G) (X : ZX E sb L xs) (Q : Int32 → Gr → Gr → Pd → Dy → Gr → Co → Gu → Gm → Gr → Gr → Kp → Ec → Mo → Prop) (hret : ∀ (v : Int32) (u9 : Gr × Gr × Pd × Dy × Gr × Co × Gu × Gm × Gr × Gr × Kp × Ec × Mo) (lv : List (Nat × Value)) (pc : Nat), Q v u9.1 u9.2.1 u9.2.2.1 u9.2.2.2.1 u9.2.2.2.2.1 u9.2.2.2.2.2.1 u9.2.2.2.2.2.2.1 u9.2.2.2.2.2.2.2.1 u9.2.2.2.2.2.2.2.2.1 u9.2.2.2.2.2.2.2.2.2.1 u9.2.2.2.2.2.2.2.2.2.2.1 u9.2.2.2.2.2.2.2.2.2.2.2.1 u9.2.2.2.2.2.2.2.2.2.2.2.2 → decode cL_law pc = .ok (.ireturn, 1) → Z E 4 72 4457 (w_law G a ab u9.1 u9.2.1 u9.2.2.1 u9.2.2.2.1 u9.2.2.2.2.1 u9.2.2.2.2.2.1 u9.2.2.2.2.2.2.1 u9.2.2.2.2.2.2.2.1 u9.2.2.2.2.2.2.2.2.1 u9.2.2.2.2.2.2.2.2.2.1 u9.2.2.2.2.2.2.2.2.2.2.1 u9.2.2.2.2.2.2.2.2.2.2.2.1 u9.2.2.2.2.2.2.2.2.2.2.2.2) lv pc [.int v]) (K18 : Gr → Gr → Pd → Dy → Gr → Co → Gu → Gm → Gr → Gr → Kp → Ec → Mo → Int32 → Prop) (hJ : ∀ (vg : Gr) (vs : Gr) (vp : Pd) (vy : Dy) (ve : Gr) (vc : Co) (vu : Gu) (vt : Gm) (vi : Gr) (vj : Gr) (vk : Kp) (vh : Ec) (vm : Mo) (x3 : Int32), wpL_law_B1044 xs L Q K18 vg vs vp vy ve vc vu vt vi vj vk vh vm x3 → Z E 4 72 4457 (w_law G a ab vg vs vp vy ve vc vu vt vi vj vk vh vm) [(0, .ref (sb)), (1, .ref (a 0)), (2, .ref (ab 0)), (3, .int x3)] 1044 []) (vg : Gr) (vs : Gr) (vp : Pd) (vy : Dy) (ve : Gr) (vc : Co) (vu : Gu) (vt : Gm) (vi : Gr) (vj : Gr) (vk : Kp) (vh : Ec) (vm : Mo) (x3 : Int32) (h : (vp_in (x3 + (1 : Int32)) L ∧ (vp_in (x3 + (2 : Int32)) L ∧ (vp_in (x3 + (3 : Int32)) L ∧ (vp_in (x3 + (4 : Int32)) L ∧ (vp_in (x3 + (5 : Int32)) L ∧ (vp_in (x3 + (6 : Int32)) L ∧ (wpX6_fogs vg vc (xs ((x3 + (1 : Int32))).toNatClampNeg) (xs ((x3 + (2 : Int32))).toNatClampNeg) (xs ((x3 + (3 : Int32))).toNatClampNeg) (xs ((x3 + (4 : Int32))).toNatClampNeg) (xs ((x3 + (5 : Int32))).toNatClampNeg) (xs ((x3 + (6 : Int32))).toNatClampNeg) (fun r_119 vg_120 vc_121 => (vp_in (x3 + (1 : Int32)) L ∧ (vp_in (x3 + (2 : Int32)) L ∧ (vp_in (x3 + (3 : Int32)) L ∧ (vp_in (x3 + (4 : Int32)) L ∧ (vp_in (x3 + (5 : Int32)) L ∧ (vp_in (x3 + (6 : Int32)) L ∧ (wpX7_fogs vm (xs ((x3 + (1 : Int32))).toNatClampNeg) (xs ((x3 + (2 : Int32))).toNatClampNeg) (xs ((x3 + (3 : Int32))).toNatClampNeg) (xs ((x3 + (4 : Int32))).toNatClampNeg) (xs ((x3 + (5 : Int32))).toNatClampNeg) (xs ((x3 + (6 : Int32))).toNatClampNeg) (fun r_122 vm_123 => (((lg_cmp r_119 r_122) = 0 → wpL_law_B1044 xs L Q K18 vg_120 vs vp vy ve vc_121 vu vt vi vj vk vh vm_123 x3) ∧ (¬ (lg_cmp r_119 r_122) = 0 → Q (0 : Int32) vg_120 vs vp vy ve vc_121 vu vt vi vj vk vh vm_123))))))))))))))))))) : Z E 4 72 4457 (w_law G a ab vg vs vp vy ve vc vu vt vi vj vk vh vm) [(0, .ref (sb)), (1, .ref (a 0)), (2, .ref (ab 0)), (3, .int x3)] 823 [] := by
  refine z_aload_n F dL_law_823 rfl 1 rfl ?_
  refine z_aload_n F dL_law_824 rfl 0 rfl ?_
  refine z_iload_n F dL_law_825 rfl 3 rfl ?_
  refine z_iconst (v := 1) F dL_law_826 rfl ?_
  refine z_iadd F dL_law_827 ?_
  have h9 := h.1
  have h := h.2
  refine z_sld F X h9 dL_law_828 ?_
  refine z_aload_n F dL_law_829 rfl 0 rfl ?_
  refine z_iload_n F dL_law_830 rfl 3 rfl ?_
  refine z_iconst (v := 2) F dL_law_831 rfl ?_
  refine z_iadd F dL_law_832 ?_
  have h9 := h.1
  have h := h.2
  refine z_sld F X h9 dL_law_833 ?_
  refine z_aload_n F dL_law_834 rfl 0 rfl ?_
  refine z_iload_n F dL_law_835 rfl 3 rfl ?_
  refine z_iconst (v := 3) F dL_law_836 rfl ?_
  refine z_iadd F dL_law_837 ?_
  have h9 := h.1
  have h := h.2
  refine z_sld F X h9 dL_law_838 ?_
  refine z_aload_n F dL_law_839 rfl 0 rfl ?_
  refine z_iload_n F dL_law_840 rfl 3 rfl ?_
  refine z_iconst (v := 4) F dL_law_841 rfl ?_
  refine z_iadd F dL_law_842 ?_
  have h9 := h.1
  have h := h.2
  refine z_sld F X h9 dL_law_843 ?_
  refine z_aload_n F dL_law_844 rfl 0 rfl ?_
  refine z_iload_n F dL_law_845 rfl 3 rfl ?_
  refine z_iconst (v := 5) F dL_law_846 rfl ?_
  refine z_iadd F dL_law_847 ?_
  have h9 := h.1
  have h := h.2
  refine z_sld F X h9 dL_law_848 ?_
  refine z_aload_n F dL_law_849 rfl 0 rfl ?_
  refine z_iload_n F dL_law_850 rfl 3 rfl ?_
  refine z_bipush (v := 6) F dL_law_851 rfl ?_
  refine z_iadd F dL_law_853 ?_
  have h9 := h.1
  have h := h.2
  refine z_sld F X h9 dL_law_854 ?_
  refine z_callVl2 (wr_S4 G a ab vs vp vy ve vu vt vi vj vk vh vm) (fun u9 => w_law G a ab u9.1 vs vp vy ve u9.2 vu vt vi vj vk vh vm) F (mX6_fogs G a vg vc (xs ((x3 + (1 : Int32))).toNatClampNeg) (xs ((x3 + (2 : Int32))).toNatClampNeg) (xs ((x3 + (3 : Int32))).toNatClampNeg) (xs ((x3 + (4 : Int32))).toNatClampNeg) (xs ((x3 + (5 : Int32))).toNatClampNeg) (xs ((x3 + (6 : Int32))).toNatClampNeg) _ h) gL_law_X6_fogs rfl hdX6_fogs ⟨rfl, rfl, Nat.le_of_ble_eq_true rfl, Nat.le_of_ble_eq_true rfl, Nat.le_of_ble_eq_true rfl, Nat.le_of_ble_eq_true rfl⟩ 0 rfl rfl [0, 1, 2, 3, 4, 5, 6, 7, 8, 28, 29] [9, 10, 11, 12, 13, 14, 15, 16, 17, 18, 19, 20, 21, 22, 23, 24, 25, 26, 27, 30, 31, 32, 33, 34, 35, 36, 37, 38, 39, 40, 41, 42, 43, 44, 45, 46, 47, 48, 49, 50, 51, 52, 53, 54, 55, 56, 57, 58, 59, 60, 61, 62, 63, 64, 65, 66, 67, 68, 69, 70, 71] [61, 62, 63, 64, 65, 66, 67, 68, 69, 0, 1, 2, 3, 4, 5, 6, 7, 8, 9, 10, 11, 12, 13, 14, 15, 16, 17, 18, 70, 71, 19, 20, 21, 22, 23, 24, 25, 26, 27, 28, 29, 30, 31, 32, 33, 34, 35, 36, 37, 38, 39, 40, 41, 42, 43, 44, 45, 46, 47, 48, 49, 50, 51, 52, 53, 54, 55, 56, 57, 58, 59, 60] (lc_S4_C G a ab vg vs vp vy ve vc vu vt vi vj vk vh vm) (lc_S4_R G a ab vg vs vp vy ve vc vu vt vi vj vk vh vm) lc_S4_n (fun u9 => lc_S4_P G a ab u9.1 vs vp vy ve u9.2 vu vt vi vj vk vh vm) rfl (Nat.le_of_ble_eq_true rfl) dL_law_855 (fun r_119 u9 h => ?_)
  obtain ⟨vg_120, vc_121⟩ := u9
  refine z_w (w' := w_law G a ab vg_120 vs vp vy ve vc_121 vu vt vi vj vk vh vm) rfl ?_
  refine z_aload_n F dL_law_858 rfl 2 rfl ?_
  refine z_aload_n F dL_law_859 rfl 0 rfl ?_
  refine z_iload_n F dL_law_860 rfl 3 rfl ?_
  refine z_iconst (v := 1) F dL_law_861 rfl ?_
  refine z_iadd F dL_law_862 ?_
  have h9 := h.1
  have h := h.2
  refine z_sld F X h9 dL_law_863 ?_
  refine z_aload_n F dL_law_864 rfl 0 rfl ?_
  refine z_iload_n F dL_law_865 rfl 3 rfl ?_
  refine z_iconst (v := 2) F dL_law_866 rfl ?_
  refine z_iadd F dL_law_867 ?_
  have h9 := h.1
  have h := h.2
  refine z_sld F X h9 dL_law_868 ?_
  refine z_aload_n F dL_law_869 rfl 0 rfl ?_
  refine z_iload_n F dL_law_870 rfl 3 rfl ?_
  refine z_iconst (v := 3) F dL_law_871 rfl ?_
  refine z_iadd F dL_law_872 ?_
  have h9 := h.1
  have h := h.2
  refine z_sld F X h9 dL_law_873 ?_
  refine z_aload_n F dL_law_874 rfl 0 rfl ?_
  refine z_iload_n F dL_law_875 rfl 3 rfl ?_
  refine z_iconst (v := 4) F dL_law_876 rfl ?_
  refine z_iadd F dL_law_877 ?_
  have h9 := h.1
  have h := h.2
  refine z_sld F X h9 dL_law_878 ?_
  refine z_aload_n F dL_law_879 rfl 0 rfl ?_
  refine z_iload_n F dL_law_880 rfl 3 rfl ?_
  refine z_iconst (v := 5) F dL_law_881 rfl ?_
  refine z_iadd F dL_law_882 ?_
  have h9 := h.1
  have h := h.2
  refine z_sld F X h9 dL_law_883 ?_
  refine z_aload_n F dL_law_884 rfl 0 rfl ?_
  refine z_iload_n F dL_law_885 rfl 3 rfl ?_
  refine z_bipush (v := 6) F dL_law_886 rfl ?_
  refine z_iadd F dL_law_888 ?_
  have h9 := h.1
  have h := h.2
  refine z_sld F X h9 dL_law_889 ?_
  refine z_callVl2 (wr_S1 G a ab vg_120 vs vp vy ve vc_121 vu vt vi vj vk vh) (fun u9 => w_law G a ab vg_120 vs vp vy ve vc_121 vu vt vi vj vk vh u9) F (mX7_fogs G ab vm (xs ((x3 + (1 : Int32))).toNatClampNeg) (xs ((x3 + (2 : Int32))).toNatClampNeg) (xs ((x3 + (3 : Int32))).toNatClampNeg) (xs ((x3 + (4 : Int32))).toNatClampNeg) (xs ((x3 + (5 : Int32))).toNatClampNeg) (xs ((x3 + (6 : Int32))).toNatClampNeg) _ h) gL_law_X7_fogs rfl hdX7_fogs ⟨rfl, rfl, Nat.le_of_ble_eq_true rfl, Nat.le_of_ble_eq_true rfl, Nat.le_of_ble_eq_true rfl, Nat.le_of_ble_eq_true rfl⟩ 55 rfl rfl [55, 56, 57, 58, 59, 60, 61, 62, 63, 64, 65, 66, 67, 68, 69, 70, 71] [0, 1, 2, 3, 4, 5, 6, 7, 8, 9, 10, 11, 12, 13, 14, 15, 16, 17, 18, 19, 20, 21, 22, 23, 24, 25, 26, 27, 28, 29, 30, 31, 32, 33, 34, 35, 36, 37, 38, 39, 40, 41, 42, 43, 44, 45, 46, 47, 48, 49, 50, 51, 52, 53, 54] [0, 1, 2, 3, 4, 5, 6, 7, 8, 9, 10, 11, 12, 13, 14, 15, 16, 17, 18, 19, 20, 21, 22, 23, 24, 25, 26, 27, 28, 29, 30, 31, 32, 33, 34, 35, 36, 37, 38, 39, 40, 41, 42, 43, 44, 45, 46, 47, 48, 49, 50, 51, 52, 53, 54, 55, 56, 57, 58, 59, 60, 61, 62, 63, 64, 65, 66, 67, 68, 69, 70, 71] (lc_S1_C G a ab vg_120 vs vp vy ve vc_121 vu vt vi vj vk vh vm) (lc_S1_R G a ab vg_120 vs vp vy ve vc_121 vu vt vi vj vk vh vm) lc_S1_n (fun u9 => lc_S1_P G a ab vg_120 vs vp vy ve vc_121 vu vt vi vj vk vh u9) rfl (Nat.le_of_ble_eq_true rfl) dL_law_890 (fun r_122 vm_123 h => ?_)
  refine z_lcmp F dL_law_893 ?_
  refine z_if_eq 1044 F dL_law_894 (by decide) (fun c9 => ?_) (fun c9 => ?_)
  · have h := h.1 c9
    exact z_lv [0, 1, 2, 3] rfl (hJ vg_120 vs vp vy ve vc_121 vu vt vi vj vk vh vm_123 x3 h)
  · have h := h.2 c9
    refine z_iconst (v := 0) F dL_law_897 rfl ?_
    exact hret (0 : Int32) (vg_120, vs, vp, vy, ve, vc_121, vu, vt, vi, vj, vk, vh, vm_123) _ _ h dL_law_898
set_option maxRecDepth 100000 in
set_option maxHeartbeats 4000000 in
theorem mL_c24 (G : ZG) (a : Nat → Nat) (ab : Nat → Nat) (sb L : Nat) (xs : Nat → Int32) (E : ZE) (F : ZF E 4 cL_law RL wsL_law room_1 G) (X : ZX E sb L xs) (Q : Int32 → Gr → Gr → Pd → Dy → Gr → Co → Gu → Gm → Gr → Gr → Kp → Ec → Mo → Prop) (hret : ∀ (v : Int32) (u9 : Gr × Gr × Pd × Dy × Gr × Co × Gu × Gm × Gr × Gr × Kp × Ec × Mo) (lv : List (Nat × Value)) (pc : Nat), Q v u9.1 u9.2.1 u9.2.2.1 u9.2.2.2.1 u9.2.2.2.2.1 u9.2.2.2.2.2.1 u9.2.2.2.2.2.2.1 u9.2.2.2.2.2.2.2.1 u9.2.2.2.2.2.2.2.2.1 u9.2.2.2.2.2.2.2.2.2.1 u9.2.2.2.2.2.2.2.2.2.2.1 u9.2.2.2.2.2.2.2.2.2.2.2.1 u9.2.2.2.2.2.2.2.2.2.2.2.2 → decode cL_law pc = .ok (.ireturn, 1) → Z E 4 72 4457 (w_law G a ab u9.1 u9.2.1 u9.2.2.1 u9.2.2.2.1 u9.2.2.2.2.1 u9.2.2.2.2.2.1 u9.2.2.2.2.2.2.1 u9.2.2.2.2.2.2.2.1 u9.2.2.2.2.2.2.2.2.1 u9.2.2.2.2.2.2.2.2.2.1 u9.2.2.2.2.2.2.2.2.2.2.1 u9.2.2.2.2.2.2.2.2.2.2.2.1 u9.2.2.2.2.2.2.2.2.2.2.2.2) lv pc [.int v]) (K18 : Gr → Gr → Pd → Dy → Gr → Co → Gu → Gm → Gr → Gr → Kp → Ec → Mo → Int32 → Prop) (hJ : ∀ (vg : Gr) (vs : Gr) (vp : Pd) (vy : Dy) (ve : Gr) (vc : Co) (vu : Gu) (vt : Gm) (vi : Gr) (vj : Gr) (vk : Kp) (vh : Ec) (vm : Mo) (x3 : Int32), wpL_law_B1044 xs L Q K18 vg vs vp vy ve vc vu vt vi vj vk vh vm x3 → Z E 4 72 4457 (w_law G a ab vg vs vp vy ve vc vu vt vi vj vk vh vm) [(0, .ref (sb)), (1, .ref (a 0)), (2, .ref (ab 0)), (3, .int x3)] 1044 []) (vg : Gr) (vs : Gr) (vp : Pd) (vy : Dy) (ve : Gr) (vc : Co) (vu : Gu) (vt : Gm) (vi : Gr) (vj : Gr) (vk : Kp) (vh : Ec) (vm : Mo) (x3 : Int32) (h : (vp_in (x3 + (1 : Int32)) L ∧ (vp_in (x3 + (2 : Int32)) L ∧ (wpX6_turns vg vt (xs ((x3 + (1 : Int32))).toNatClampNeg) (xs ((x3 + (2 : Int32))).toNatClampNeg) (fun r_124 vg_125 vt_126 => (vp_in (x3 + (1 : Int32)) L ∧ (vp_in (x3 + (2 : Int32)) L ∧ (wpX7_turns vm (xs ((x3 + (1 : Int32))).toNatClampNeg) (xs ((x3 + (2 : Int32))).toNatClampNeg) (fun r_127 vm_128 => ((r_124 = r_127 → wpL_law_B1044 xs L Q K18 vg_125 vs vp vy ve vc vu vt_126 vi vj vk vh vm_128 x3) ∧ (¬ r_124 = r_127 → Q (0 : Int32) vg_125 vs vp vy ve vc vu vt_126 vi vj vk vh vm_128))))))))))) : Z E 4 72 4457 (w_law G a ab vg vs vp vy ve vc vu vt vi vj vk vh vm) [(0, .ref (sb)), (1, .ref (a 0)), (2, .ref (ab 0)), (3, .int x3)] 899 [] := by
  refine z_aload_n F dL_law_899 rfl 1 rfl ?_
  refine z_aload_n F dL_law_900 rfl 0 rfl ?_
  refine z_iload_n F dL_law_901 rfl 3 rfl ?_
  refine z_iconst (v := 1) F dL_law_902 rfl ?_
  refine z_iadd F dL_law_903 ?_
  have h9 := h.1
  have h := h.2
  refine z_sld F X h9 dL_law_904 ?_
  refine z_aload_n F dL_law_905 rfl 0 rfl ?_
  refine z_iload_n F dL_law_906 rfl 3 rfl ?_
  refine z_iconst (v := 2) F dL_law_907 rfl ?_
  refine z_iadd F dL_law_908 ?_
  have h9 := h.1
  have h := h.2
  refine z_sld F X h9 dL_law_909 ?_
  refine z_callVi2 (wr_S8 G a ab vs vp vy ve vc vu vi vj vk vh vm) (fun u9 => w_law G a ab u9.1 vs vp vy ve vc vu u9.2 vi vj vk vh vm) F (mX6_turns G a vg vt (xs ((x3 + (1 : Int32))).toNatClampNeg) (xs ((x3 + (2 : Int32))).toNatClampNeg) _ h) gL_law_X6_turns rfl hdX6_turns ⟨rfl, rfl, Nat.le_of_ble_eq_true rfl, Nat.le_of_ble_eq_true rfl, Nat.le_of_ble_eq_true rfl, Nat.le_of_ble_eq_true rfl⟩ 0 rfl rfl [0, 1, 2, 3, 4, 5, 6, 7, 8, 34, 35, 36] [9, 10, 11, 12, 13, 14, 15, 16, 17, 18, 19, 20, 21, 22, 23, 24, 25, 26, 27, 28, 29, 30, 31, 32, 33, 37, 38, 39, 40, 41, 42, 43, 44, 45, 46, 47, 48, 49, 50, 51, 52, 53, 54, 55, 56, 57, 58, 59, 60, 61, 62, 63, 64, 65, 66, 67, 68, 69, 70, 71] [60, 61, 62, 63, 64, 65, 66, 67, 68, 0, 1, 2, 3, 4, 5, 6, 7, 8, 9, 10, 11, 12, 13, 14, 15, 16, 17, 18, 19, 20, 21, 22, 23, 24, 69, 70, 71, 25, 26, 27, 28, 29, 30, 31, 32, 33, 34, 35, 36, 37, 38, 39, 40, 41, 42, 43, 44, 45, 46, 47, 48, 49, 50, 51, 52, 53, 54, 55, 56, 57, 58, 59] (lc_S8_C G a ab vg vs vp vy ve vc vu vt vi vj vk vh vm) (lc_S8_R G a ab vg vs vp vy ve vc vu vt vi vj vk vh vm) lc_S8_n (fun u9 => lc_S8_P G a ab u9.1 vs vp vy ve vc vu u9.2 vi vj vk vh vm) rfl (Nat.le_of_ble_eq_true rfl) dL_law_910 (fun r_124 u9 h => ?_)
  obtain ⟨vg_125, vt_126⟩ := u9
  refine z_w (w' := w_law G a ab vg_125 vs vp vy ve vc vu vt_126 vi vj vk vh vm) rfl ?_
  refine z_aload_n F dL_law_913 rfl 2 rfl ?_
  refine z_aload_n F dL_law_914 rfl 0 rfl ?_
  refine z_iload_n F dL_law_915 rfl 3 rfl ?_
  refine z_iconst (v := 1) F dL_law_916 rfl ?_
  refine z_iadd F dL_law_917 ?_
  have h9 := h.1
  have h := h.2
  refine z_sld F X h9 dL_law_918 ?_
  refine z_aload_n F dL_law_919 rfl 0 rfl ?_
  refine z_iload_n F dL_law_920 rfl 3 rfl ?_
  refine z_iconst (v := 2) F dL_law_921 rfl ?_
  refine z_iadd F dL_law_922 ?_
  have h9 := h.1
  have h := h.2
  refine z_sld F X h9 dL_law_923 ?_
  refine z_callVi2 (wr_S1 G a ab vg_125 vs vp vy ve vc vu vt_126 vi vj vk vh) (fun u9 => w_law G a ab vg_125 vs vp vy ve vc vu vt_126 vi vj vk vh u9) F (mX7_turns G ab vm (xs ((x3 + (1 : Int32))).toNatClampNeg) (xs ((x3 + (2 : Int32))).toNatClampNeg) _ h) gL_law_X7_turns rfl hdX7_turns ⟨rfl, rfl, Nat.le_of_ble_eq_true rfl, Nat.le_of_ble_eq_true rfl, Nat.le_of_ble_eq_true rfl, Nat.le_of_ble_eq_true rfl⟩ 55 rfl rfl [55, 56, 57, 58, 59, 60, 61, 62, 63, 64, 65, 66, 67, 68, 69, 70, 71] [0, 1, 2, 3, 4, 5, 6, 7, 8, 9, 10, 11, 12, 13, 14, 15, 16, 17, 18, 19, 20, 21, 22, 23, 24, 25, 26, 27, 28, 29, 30, 31, 32, 33, 34, 35, 36, 37, 38, 39, 40, 41, 42, 43, 44, 45, 46, 47, 48, 49, 50, 51, 52, 53, 54] [0, 1, 2, 3, 4, 5, 6, 7, 8, 9, 10, 11, 12, 13, 14, 15, 16, 17, 18, 19, 20, 21, 22, 23, 24, 25, 26, 27, 28, 29, 30, 31, 32, 33, 34, 35, 36, 37, 38, 39, 40, 41, 42, 43, 44, 45, 46, 47, 48, 49, 50, 51, 52, 53, 54, 55, 56, 57, 58, 59, 60, 61, 62, 63, 64, 65, 66, 67, 68, 69, 70, 71] (lc_S1_C G a ab vg_125 vs vp vy ve vc vu vt_126 vi vj vk vh vm) (lc_S1_R G a ab vg_125 vs vp vy ve vc vu vt_126 vi vj vk vh vm) lc_S1_n (fun u9 => lc_S1_P G a ab vg_125 vs vp vy ve vc vu vt_126 vi vj vk vh u9) rfl (Nat.le_of_ble_eq_true rfl) dL_law_924 (fun r_127 vm_128 h => ?_)
  refine z_icmp_eq 1044 F dL_law_927 (by decide) (fun c9 => ?_) (fun c9 => ?_)
  · have h := h.1 c9
    exact z_lv [0, 1, 2, 3] rfl (hJ vg_125 vs vp vy ve vc vu vt_126 vi vj vk vh vm_128 x3 h)
  · have h := h.2 c9
    refine z_iconst (v := 0) F dL_law_930 rfl ?_
    exact hret (0 : Int32) (vg_125, vs, vp, vy, ve, vc, vu, vt_126, vi, vj, vk, vh, vm_128) _ _ h dL_law_931
