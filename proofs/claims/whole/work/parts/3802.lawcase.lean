set_option maxRecDepth 100000 in
set_option maxHeartbeats 4000000 in
theorem mL_c10 (G : ZG) (a : Nat → Nat) (ab : Nat → Nat) (sb L : Nat) (xs : Nat → Int32) (E : ZE) (F : ZF E 4 cL_law RL wsL_law room_1 G) (X : ZX E sb L xs) (Q : Int32 → Gr → Gr → Pd → Dy → Gr → Co → Gu → Gm → Gr → Gr → Kp → Ec → Mo → Prop) (hret : ∀ (v : Int32) (u9 : Gr × Gr × Pd × Dy × Gr × Co × Gu × Gm × Gr × Gr × Kp × Ec × Mo) (lv : List (Nat × Value)) (pc : Nat), Q v u9.1 u9.2.1 u9.2.2.1 u9.2.2.2.1 u9.2.2.2.2.1 u9.2.2.2.2.2.1 u9.2.2.2.2.2.2.1 u9.2.2.2.2.2.2.2.1 u9.2.2.2.2.2.2.2.2.1 u9.2.2.2.2.2.2.2.2.2.1 u9.2.2.2.2.2.2.2.2.2.2.1 u9.2.2.2.2.2.2.2.2.2.2.2.1 u9.2.2.2.2.2.2.2.2.2.2.2.2 → decode cL_law pc = .ok (.ireturn, 1) → Z E 4 72 4457 (w_law G a ab u9.1 u9.2.1 u9.2.2.1 u9.2.2.2.1 u9.2.2.2.2.1 u9.2.2.2.2.2.1 u9.2.2.2.2.2.2.1 u9.2.2.2.2.2.2.2.1 u9.2.2.2.2.2.2.2.2.1 u9.2.2.2.2.2.2.2.2.2.1 u9.2.2.2.2.2.2.2.2.2.2.1 u9.2.2.2.2.2.2.2.2.2.2.2.1 u9.2.2.2.2.2.2.2.2.2.2.2.2) lv pc [.int v]) (K18 : Gr → Gr → Pd → Dy → Gr → Co → Gu → Gm → Gr → Gr → Kp → Ec → Mo → Int32 → Prop) (hJ : ∀ (vg : Gr) (vs : Gr) (vp : Pd) (vy : Dy) (ve : Gr) (vc : Co) (vu : Gu) (vt : Gm) (vi : Gr) (vj : Gr) (vk : Kp) (vh : Ec) (vm : Mo) (x3 : Int32), wpL_law_B1044 xs L Q K18 vg vs vp vy ve vc vu vt vi vj vk vh vm x3 → Z E 4 72 4457 (w_law G a ab vg vs vp vy ve vc vu vt vi vj vk vh vm) [(0, .ref (sb)), (1, .ref (a 0)), (2, .ref (ab 0)), (3, .int x3)] 1044 []) (vg : Gr) (vs : Gr) (vp : Pd) (vy : Dy) (ve : Gr) (vc : Co) (vu : Gu) (vt : Gm) (vi : Gr) (vj : Gr) (vk : Kp) (vh : Ec) (vm : Mo) (x3 : Int32) (h : (vp_in (x3 + (1 : Int32)) L ∧ (wpX6_sees vg (xs ((x3 + (1 : Int32))).toNatClampNeg) (fun r_53 vg_54 => (vp_in (x3 + (1 : Int32)) L ∧ (wpX7_sees vm (xs ((x3 + (1 : Int32))).toNatClampNeg) (fun r_55 vm_56 => ((r_53 = r_55 → wpL_law_B1044 xs L Q K18 vg_54 vs vp vy ve vc vu vt vi vj vk vh vm_56 x3) ∧ (¬ r_53 = r_55 → Q (0 : Int32) vg_54 vs vp vy ve vc vu vt vi vj vk vh vm_56))))))))) : Z E 4 72 4457 (w_law G a ab vg vs vp vy ve vc vu vt vi vj vk vh vm) [(0, .ref (sb)), (1, .ref (a 0)), (2, .ref (ab 0)), (3, .int x3)] 404 [] := by
  refine z_aload_n F dL_law_404 rfl 1 rfl ?_
  refine z_aload_n F dL_law_405 rfl 0 rfl ?_
  refine z_iload_n F dL_law_406 rfl 3 rfl ?_
  refine z_iconst (v := 1) F dL_law_407 rfl ?_
  refine z_iadd F dL_law_408 ?_
  have h9 := h.1
  have h := h.2
  refine z_sld F X h9 dL_law_409 ?_
  refine z_callVi2 (wr_S0 G a ab vs vp vy ve vc vu vt vi vj vk vh vm) (fun u9 => w_law G a ab u9 vs vp vy ve vc vu vt vi vj vk vh vm) F (mX6_sees G a vg (xs ((x3 + (1 : Int32))).toNatClampNeg) _ h) gL_law_X6_sees rfl hdX6_sees ⟨rfl, rfl, Nat.le_of_ble_eq_true rfl, Nat.le_of_ble_eq_true rfl, Nat.le_of_ble_eq_true rfl, Nat.le_of_ble_eq_true rfl⟩ 0 rfl rfl [0, 1, 2, 3, 4, 5, 6, 7, 8] [9, 10, 11, 12, 13, 14, 15, 16, 17, 18, 19, 20, 21, 22, 23, 24, 25, 26, 27, 28, 29, 30, 31, 32, 33, 34, 35, 36, 37, 38, 39, 40, 41, 42, 43, 44, 45, 46, 47, 48, 49, 50, 51, 52, 53, 54, 55, 56, 57, 58, 59, 60, 61, 62, 63, 64, 65, 66, 67, 68, 69, 70, 71] [63, 64, 65, 66, 67, 68, 69, 70, 71, 0, 1, 2, 3, 4, 5, 6, 7, 8, 9, 10, 11, 12, 13, 14, 15, 16, 17, 18, 19, 20, 21, 22, 23, 24, 25, 26, 27, 28, 29, 30, 31, 32, 33, 34, 35, 36, 37, 38, 39, 40, 41, 42, 43, 44, 45, 46, 47, 48, 49, 50, 51, 52, 53, 54, 55, 56, 57, 58, 59, 60, 61, 62] (lc_S0_C G a ab vg vs vp vy ve vc vu vt vi vj vk vh vm) (lc_S0_R G a ab vg vs vp vy ve vc vu vt vi vj vk vh vm) lc_S0_n (fun u9 => lc_S0_P G a ab u9 vs vp vy ve vc vu vt vi vj vk vh vm) rfl (Nat.le_of_ble_eq_true rfl) dL_law_410 (fun r_53 vg_54 h => ?_)
  refine z_aload_n F dL_law_413 rfl 2 rfl ?_
  refine z_aload_n F dL_law_414 rfl 0 rfl ?_
  refine z_iload_n F dL_law_415 rfl 3 rfl ?_
  refine z_iconst (v := 1) F dL_law_416 rfl ?_
  refine z_iadd F dL_law_417 ?_
  have h9 := h.1
  have h := h.2
  refine z_sld F X h9 dL_law_418 ?_
  refine z_callVi2 (wr_S1 G a ab vg_54 vs vp vy ve vc vu vt vi vj vk vh) (fun u9 => w_law G a ab vg_54 vs vp vy ve vc vu vt vi vj vk vh u9) F (mX7_sees G ab vm (xs ((x3 + (1 : Int32))).toNatClampNeg) _ h) gL_law_X7_sees rfl hdX7_sees ⟨rfl, rfl, Nat.le_of_ble_eq_true rfl, Nat.le_of_ble_eq_true rfl, Nat.le_of_ble_eq_true rfl, Nat.le_of_ble_eq_true rfl⟩ 55 rfl rfl [55, 56, 57, 58, 59, 60, 61, 62, 63, 64, 65, 66, 67, 68, 69, 70, 71] [0, 1, 2, 3, 4, 5, 6, 7, 8, 9, 10, 11, 12, 13, 14, 15, 16, 17, 18, 19, 20, 21, 22, 23, 24, 25, 26, 27, 28, 29, 30, 31, 32, 33, 34, 35, 36, 37, 38, 39, 40, 41, 42, 43, 44, 45, 46, 47, 48, 49, 50, 51, 52, 53, 54] [0, 1, 2, 3, 4, 5, 6, 7, 8, 9, 10, 11, 12, 13, 14, 15, 16, 17, 18, 19, 20, 21, 22, 23, 24, 25, 26, 27, 28, 29, 30, 31, 32, 33, 34, 35, 36, 37, 38, 39, 40, 41, 42, 43, 44, 45, 46, 47, 48, 49, 50, 51, 52, 53, 54, 55, 56, 57, 58, 59, 60, 61, 62, 63, 64, 65, 66, 67, 68, 69, 70, 71] (lc_S1_C G a ab vg_54 vs vp vy ve vc vu vt vi vj vk vh vm) (lc_S1_R G a ab vg_54 vs vp vy ve vc vu vt vi vj vk vh vm) lc_S1_n (fun u9 => lc_S1_P G a ab vg_54 vs vp vy ve vc vu vt vi vj vk vh u9) rfl (Nat.le_of_ble_eq_true rfl) dL_law_419 (fun r_55 vm_56 h => ?_)
  refine z_icmp_eq 1044 F dL_law_422 (by decide) (fun c9 => ?_) (fun c9 => ?_)
  · have h := h.1 c9
    exact z_lv [0, 1, 2, 3] rfl (hJ vg_54 vs vp vy ve vc vu vt vi vj vk vh vm_56 x3 h)
  · have h := h.2 c9
    refine z_iconst (v := 0) F dL_law_425 rfl ?_
    exact hret (0 : Int32) (vg_54, vs, vp, vy, ve, vc, vu, vt, vi, vj, vk, vh, vm_56) _ _ h dL_law_426
set_option maxRecDepth 100000 in
set_option maxHeartbeats 4000000 in
theorem mL_c11 (G : ZG) (a : Nat → Nat) (ab : Nat → Nat) (sb L : Nat) (xs : Nat → Int32) (E : ZE) (F : ZF E 4 cL_law RL wsL_law room_1 G) (X : ZX E sb L xs) (Q : Int32 → Gr → Gr → Pd → Dy → Gr → Co → Gu → Gm → Gr → Gr → Kp → Ec → Mo → Prop) (hret : ∀ (v : Int32) (u9 : Gr × Gr × Pd × Dy × Gr × Co × Gu × Gm × Gr × Gr × Kp × Ec × Mo) (lv : List (Nat × Value)) (pc : Nat), Q v u9.1 u9.2.1 u9.2.2.1 u9.2.2.2.1 u9.2.2.2.2.1 u9.2.2.2.2.2.1 u9.2.2.2.2.2.2.1 u9.2.2.2.2.2.2.2.1 u9.2.2.2.2.2.2.2.2.1 u9.2.2.2.2.2.2.2.2.2.1 u9.2.2.2.2.2.2.2.2.2.2.1 u9.2.2.2.2.2.2.2.2.2.2.2.1 u9.2.2.2.2.2.2.2.2.2.2.2.2 → decode cL_law pc = .ok (.ireturn, 1) → Z E 4 72 4457 (w_law G a ab u9.1 u9.2.1 u9.2.2.1 u9.2.2.2.1 u9.2.2.2.2.1 u9.2.2.2.2.2.1 u9.2.2.2.2.2.2.1 u9.2.2.2.2.2.2.2.1 u9.2.2.2.2.2.2.2.2.1 u9.2.2.2.2.2.2.2.2.2.1 u9.2.2.2.2.2.2.2.2.2.2.1 u9.2.2.2.2.2.2.2.2.2.2.2.1 u9.2.2.2.2.2.2.2.2.2.2.2.2) lv pc [.int v]) (K18 : Gr → Gr → Pd → Dy → Gr → Co → Gu → Gm → Gr → Gr → Kp → Ec → Mo → Int32 → Prop) (hJ : ∀ (vg : Gr) (vs : Gr) (vp : Pd) (vy : Dy) (ve : Gr) (vc : Co) (vu : Gu) (vt : Gm) (vi : Gr) (vj : Gr) (vk : Kp) (vh : Ec) (vm : Mo) (x3 : Int32), wpL_law_B1044 xs L Q K18 vg vs vp vy ve vc vu vt vi vj vk vh vm x3 → Z E 4 72 4457 (w_law G a ab vg vs vp vy ve vc vu vt vi vj vk vh vm) [(0, .ref (sb)), (1, .ref (a 0)), (2, .ref (ab 0)), (3, .int x3)] 1044 []) (vg : Gr) (vs : Gr) (vp : Pd) (vy : Dy) (ve : Gr) (vc : Co) (vu : Gu) (vt : Gm) (vi : Gr) (vj : Gr) (vk : Kp) (vh : Ec) (vm : Mo) (x3 : Int32) (h : (vp_in (x3 + (1 : Int32)) L ∧ (vp_in (x3 + (2 : Int32)) L ∧ (wpX6_forecast vg vc (xs ((x3 + (1 : Int32))).toNatClampNeg) (xs ((x3 + (2 : Int32))).toNatClampNeg) (fun r_57 vg_58 vc_59 => (vp_in (x3 + (1 : Int32)) L ∧ (vp_in (x3 + (2 : Int32)) L ∧ (wpX7_forecast vm (xs ((x3 + (1 : Int32))).toNatClampNeg) (xs ((x3 + (2 : Int32))).toNatClampNeg) (fun r_60 vm_61 => ((r_57 = r_60 → wpL_law_B1044 xs L Q K18 vg_58 vs vp vy ve vc_59 vu vt vi vj vk vh vm_61 x3) ∧ (¬ r_57 = r_60 → Q (0 : Int32) vg_58 vs vp vy ve vc_59 vu vt vi vj vk vh vm_61))))))))))) : Z E 4 72 4457 (w_law G a ab vg vs vp vy ve vc vu vt vi vj vk vh vm) [(0, .ref (sb)), (1, .ref (a 0)), (2, .ref (ab 0)), (3, .int x3)] 427 [] := by
  refine z_aload_n F dL_law_427 rfl 1 rfl ?_
  refine z_aload_n F dL_law_428 rfl 0 rfl ?_
  refine z_iload_n F dL_law_429 rfl 3 rfl ?_
  refine z_iconst (v := 1) F dL_law_430 rfl ?_
  refine z_iadd F dL_law_431 ?_
  have h9 := h.1
  have h := h.2
  refine z_sld F X h9 dL_law_432 ?_
  refine z_aload_n F dL_law_433 rfl 0 rfl ?_
  refine z_iload_n F dL_law_434 rfl 3 rfl ?_
  refine z_iconst (v := 2) F dL_law_435 rfl ?_
  refine z_iadd F dL_law_436 ?_
  have h9 := h.1
  have h := h.2
  refine z_sld F X h9 dL_law_437 ?_
  refine z_callVi2 (wr_S4 G a ab vs vp vy ve vu vt vi vj vk vh vm) (fun u9 => w_law G a ab u9.1 vs vp vy ve u9.2 vu vt vi vj vk vh vm) F (mX6_forecast G a vg vc (xs ((x3 + (1 : Int32))).toNatClampNeg) (xs ((x3 + (2 : Int32))).toNatClampNeg) _ h) gL_law_X6_forecast rfl hdX6_forecast ⟨rfl, rfl, Nat.le_of_ble_eq_true rfl, Nat.le_of_ble_eq_true rfl, Nat.le_of_ble_eq_true rfl, Nat.le_of_ble_eq_true rfl⟩ 0 rfl rfl [0, 1, 2, 3, 4, 5, 6, 7, 8, 28, 29] [9, 10, 11, 12, 13, 14, 15, 16, 17, 18, 19, 20, 21, 22, 23, 24, 25, 26, 27, 30, 31, 32, 33, 34, 35, 36, 37, 38, 39, 40, 41, 42, 43, 44, 45, 46, 47, 48, 49, 50, 51, 52, 53, 54, 55, 56, 57, 58, 59, 60, 61, 62, 63, 64, 65, 66, 67, 68, 69, 70, 71] [61, 62, 63, 64, 65, 66, 67, 68, 69, 0, 1, 2, 3, 4, 5, 6, 7, 8, 9, 10, 11, 12, 13, 14, 15, 16, 17, 18, 70, 71, 19, 20, 21, 22, 23, 24, 25, 26, 27, 28, 29, 30, 31, 32, 33, 34, 35, 36, 37, 38, 39, 40, 41, 42, 43, 44, 45, 46, 47, 48, 49, 50, 51, 52, 53, 54, 55, 56, 57, 58, 59, 60] (lc_S4_C G a ab vg vs vp vy ve vc vu vt vi vj vk vh vm) (lc_S4_R G a ab vg vs vp vy ve vc vu vt vi vj vk vh vm) lc_S4_n (fun u9 => lc_S4_P G a ab u9.1 vs vp vy ve u9.2 vu vt vi vj vk vh vm) rfl (Nat.le_of_ble_eq_true rfl) dL_law_438 (fun r_57 u9 h => ?_)
  obtain ⟨vg_58, vc_59⟩ := u9
  refine z_w (w' := w_law G a ab vg_58 vs vp vy ve vc_59 vu vt vi vj vk vh vm) rfl ?_
  refine z_aload_n F dL_law_441 rfl 2 rfl ?_
  refine z_aload_n F dL_law_442 rfl 0 rfl ?_
  refine z_iload_n F dL_law_443 rfl 3 rfl ?_
  refine z_iconst (v := 1) F dL_law_444 rfl ?_
  refine z_iadd F dL_law_445 ?_
  have h9 := h.1
  have h := h.2
  refine z_sld F X h9 dL_law_446 ?_
  refine z_aload_n F dL_law_447 rfl 0 rfl ?_
  refine z_iload_n F dL_law_448 rfl 3 rfl ?_
  refine z_iconst (v := 2) F dL_law_449 rfl ?_
  refine z_iadd F dL_law_450 ?_
  have h9 := h.1
  have h := h.2
  refine z_sld F X h9 dL_law_451 ?_
  refine z_callVi2 (wr_S1 G a ab vg_58 vs vp vy ve vc_59 vu vt vi vj vk vh) (fun u9 => w_law G a ab vg_58 vs vp vy ve vc_59 vu vt vi vj vk vh u9) F (mX7_forecast G ab vm (xs ((x3 + (1 : Int32))).toNatClampNeg) (xs ((x3 + (2 : Int32))).toNatClampNeg) _ h) gL_law_X7_forecast rfl hdX7_forecast ⟨rfl, rfl, Nat.le_of_ble_eq_true rfl, Nat.le_of_ble_eq_true rfl, Nat.le_of_ble_eq_true rfl, Nat.le_of_ble_eq_true rfl⟩ 55 rfl rfl [55, 56, 57, 58, 59, 60, 61, 62, 63, 64, 65, 66, 67, 68, 69, 70, 71] [0, 1, 2, 3, 4, 5, 6, 7, 8, 9, 10, 11, 12, 13, 14, 15, 16, 17, 18, 19, 20, 21, 22, 23, 24, 25, 26, 27, 28, 29, 30, 31, 32, 33, 34, 35, 36, 37, 38, 39, 40, 41, 42, 43, 44, 45, 46, 47, 48, 49, 50, 51, 52, 53, 54] [0, 1, 2, 3, 4, 5, 6, 7, 8, 9, 10, 11, 12, 13, 14, 15, 16, 17, 18, 19, 20, 21, 22, 23, 24, 25, 26, 27, 28, 29, 30, 31, 32, 33, 34, 35, 36, 37, 38, 39, 40, 41, 42, 43, 44, 45, 46, 47, 48, 49, 50, 51, 52, 53, 54, 55, 56, 57, 58, 59, 60, 61, 62, 63, 64, 65, 66, 67, 68, 69, 70, 71] (lc_S1_C G a ab vg_58 vs vp vy ve vc_59 vu vt vi vj vk vh vm) (lc_S1_R G a ab vg_58 vs vp vy ve vc_59 vu vt vi vj vk vh vm) lc_S1_n (fun u9 => lc_S1_P G a ab vg_58 vs vp vy ve vc_59 vu vt vi vj vk vh u9) rfl (Nat.le_of_ble_eq_true rfl) dL_law_452 (fun r_60 vm_61 h => ?_)
  refine z_icmp_eq 1044 F dL_law_455 (by decide) (fun c9 => ?_) (fun c9 => ?_)
  · have h := h.1 c9
    exact z_lv [0, 1, 2, 3] rfl (hJ vg_58 vs vp vy ve vc_59 vu vt vi vj vk vh vm_61 x3 h)
  · have h := h.2 c9
    refine z_iconst (v := 0) F dL_law_458 rfl ?_
    exact hret (0 : Int32) (vg_58, vs, vp, vy, ve, vc_59, vu, vt, vi, vj, vk, vh, vm_61) _ _ h dL_law_459
set_option maxRecDepth 100000 in
set_option maxHeartbeats 4000000 in
theorem mL_c12 (G : ZG) (a : Nat → Nat) (ab : Nat → Nat) (sb L : Nat) (xs : Nat → Int32) (E : ZE) (F : ZF E 4 cL_law RL wsL_law room_1 G) (X : ZX E sb L xs) (Q : Int32 → Gr → Gr → Pd → Dy → Gr → Co → Gu → Gm → Gr → Gr → Kp → Ec → Mo → Prop) (hret : ∀ (v : Int32) (u9 : Gr × Gr × Pd × Dy × Gr × Co × Gu × Gm × Gr × Gr × Kp × Ec × Mo) (lv : List (Nat × Value)) (pc : Nat), Q v u9.1 u9.2.1 u9.2.2.1 u9.2.2.2.1 u9.2.2.2.2.1 u9.2.2.2.2.2.1 u9.2.2.2.2.2.2.1 u9.2.2.2.2.2.2.2.1 u9.2.2.2.2.2.2.2.2.1 u9.2.2.2.2.2.2.2.2.2.1 u9.2.2.2.2.2.2.2.2.2.2.1 u9.2.2.2.2.2.2.2.2.2.2.2.1 u9.2.2.2.2.2.2.2.2.2.2.2.2 → decode cL_law pc = .ok (.ireturn, 1) → Z E 4 72 4457 (w_law G a ab u9.1 u9.2.1 u9.2.2.1 u9.2.2.2.1 u9.2.2.2.2.1 u9.2.2.2.2.2.1 u9.2.2.2.2.2.2.1 u9.2.2.2.2.2.2.2.1 u9.2.2.2.2.2.2.2.2.1 u9.2.2.2.2.2.2.2.2.2.1 u9.2.2.2.2.2.2.2.2.2.2.1 u9.2.2.2.2.2.2.2.2.2.2.2.1 u9.2.2.2.2.2.2.2.2.2.2.2.2) lv pc [.int v]) (K18 : Gr → Gr → Pd → Dy → Gr → Co → Gu → Gm → Gr → Gr → Kp → Ec → Mo → Int32 → Prop) (hJ : ∀ (vg : Gr) (vs : Gr) (vp : Pd) (vy : Dy) (ve : Gr) (vc : Co) (vu : Gu) (vt : Gm) (vi : Gr) (vj : Gr) (vk : Kp) (vh : Ec) (vm : Mo) (x3 : Int32), wpL_law_B1044 xs L Q K18 vg vs vp vy ve vc vu vt vi vj vk vh vm x3 → Z E 4 72 4457 (w_law G a ab vg vs vp vy ve vc vu vt vi vj vk vh vm) [(0, .ref (sb)), (1, .ref (a 0)), (2, .ref (ab 0)), (3, .int x3)] 1044 []) (vg : Gr) (vs : Gr) (vp : Pd) (vy : Dy) (ve : Gr) (vc : Co) (vu : Gu) (vt : Gm) (vi : Gr) (vj : Gr) (vk : Kp) (vh : Ec) (vm : Mo) (x3 : Int32) (h : (wpX6_gone vg vc (fun r_62 vg_63 vc_64 => (wpX7_gone vm (fun r_65 vm_66 => ((r_62 = r_65 → wpL_law_B1044 xs L Q K18 vg_63 vs vp vy ve vc_64 vu vt vi vj vk vh vm_66 x3) ∧ (¬ r_62 = r_65 → Q (0 : Int32) vg_63 vs vp vy ve vc_64 vu vt vi vj vk vh vm_66))))))) : Z E 4 72 4457 (w_law G a ab vg vs vp vy ve vc vu vt vi vj vk vh vm) [(0, .ref (sb)), (1, .ref (a 0)), (2, .ref (ab 0)), (3, .int x3)] 460 [] := by
  refine z_aload_n F dL_law_460 rfl 1 rfl ?_
  refine z_callVi2 (wr_S4 G a ab vs vp vy ve vu vt vi vj vk vh vm) (fun u9 => w_law G a ab u9.1 vs vp vy ve u9.2 vu vt vi vj vk vh vm) F (mX6_gone G a vg vc _ h) gL_law_X6_gone rfl hdX6_gone ⟨rfl, rfl, Nat.le_of_ble_eq_true rfl, Nat.le_of_ble_eq_true rfl, Nat.le_of_ble_eq_true rfl, Nat.le_of_ble_eq_true rfl⟩ 0 rfl rfl [0, 1, 2, 3, 4, 5, 6, 7, 8, 28, 29] [9, 10, 11, 12, 13, 14, 15, 16, 17, 18, 19, 20, 21, 22, 23, 24, 25, 26, 27, 30, 31, 32, 33, 34, 35, 36, 37, 38, 39, 40, 41, 42, 43, 44, 45, 46, 47, 48, 49, 50, 51, 52, 53, 54, 55, 56, 57, 58, 59, 60, 61, 62, 63, 64, 65, 66, 67, 68, 69, 70, 71] [61, 62, 63, 64, 65, 66, 67, 68, 69, 0, 1, 2, 3, 4, 5, 6, 7, 8, 9, 10, 11, 12, 13, 14, 15, 16, 17, 18, 70, 71, 19, 20, 21, 22, 23, 24, 25, 26, 27, 28, 29, 30, 31, 32, 33, 34, 35, 36, 37, 38, 39, 40, 41, 42, 43, 44, 45, 46, 47, 48, 49, 50, 51, 52, 53, 54, 55, 56, 57, 58, 59, 60] (lc_S4_C G a ab vg vs vp vy ve vc vu vt vi vj vk vh vm) (lc_S4_R G a ab vg vs vp vy ve vc vu vt vi vj vk vh vm) lc_S4_n (fun u9 => lc_S4_P G a ab u9.1 vs vp vy ve u9.2 vu vt vi vj vk vh vm) rfl (Nat.le_of_ble_eq_true rfl) dL_law_461 (fun r_62 u9 h => ?_)
  obtain ⟨vg_63, vc_64⟩ := u9
  refine z_w (w' := w_law G a ab vg_63 vs vp vy ve vc_64 vu vt vi vj vk vh vm) rfl ?_
  refine z_aload_n F dL_law_464 rfl 2 rfl ?_
  refine z_callVi2 (wr_S1 G a ab vg_63 vs vp vy ve vc_64 vu vt vi vj vk vh) (fun u9 => w_law G a ab vg_63 vs vp vy ve vc_64 vu vt vi vj vk vh u9) F (mX7_gone G ab vm _ h) gL_law_X7_gone rfl hdX7_gone ⟨rfl, rfl, Nat.le_of_ble_eq_true rfl, Nat.le_of_ble_eq_true rfl, Nat.le_of_ble_eq_true rfl, Nat.le_of_ble_eq_true rfl⟩ 55 rfl rfl [55, 56, 57, 58, 59, 60, 61, 62, 63, 64, 65, 66, 67, 68, 69, 70, 71] [0, 1, 2, 3, 4, 5, 6, 7, 8, 9, 10, 11, 12, 13, 14, 15, 16, 17, 18, 19, 20, 21, 22, 23, 24, 25, 26, 27, 28, 29, 30, 31, 32, 33, 34, 35, 36, 37, 38, 39, 40, 41, 42, 43, 44, 45, 46, 47, 48, 49, 50, 51, 52, 53, 54] [0, 1, 2, 3, 4, 5, 6, 7, 8, 9, 10, 11, 12, 13, 14, 15, 16, 17, 18, 19, 20, 21, 22, 23, 24, 25, 26, 27, 28, 29, 30, 31, 32, 33, 34, 35, 36, 37, 38, 39, 40, 41, 42, 43, 44, 45, 46, 47, 48, 49, 50, 51, 52, 53, 54, 55, 56, 57, 58, 59, 60, 61, 62, 63, 64, 65, 66, 67, 68, 69, 70, 71] (lc_S1_C G a ab vg_63 vs vp vy ve vc_64 vu vt vi vj vk vh vm) (lc_S1_R G a ab vg_63 vs vp vy ve vc_64 vu vt vi vj vk vh vm) lc_S1_n (fun u9 => lc_S1_P G a ab vg_63 vs vp vy ve vc_64 vu vt vi vj vk vh u9) rfl (Nat.le_of_ble_eq_true rfl) dL_law_465 (fun r_65 vm_66 h => ?_)
  refine z_icmp_eq 1044 F dL_law_468 (by decide) (fun c9 => ?_) (fun c9 => ?_)
  · have h := h.1 c9
    exact z_lv [0, 1, 2, 3] rfl (hJ vg_63 vs vp vy ve vc_64 vu vt vi vj vk vh vm_66 x3 h)
  · have h := h.2 c9
    refine z_iconst (v := 0) F dL_law_471 rfl ?_
    exact hret (0 : Int32) (vg_63, vs, vp, vy, ve, vc_64, vu, vt, vi, vj, vk, vh, vm_66) _ _ h dL_law_472
set_option maxRecDepth 100000 in
set_option maxHeartbeats 4000000 in
theorem mL_c13 (G : ZG) (a : Nat → Nat) (ab : Nat → Nat) (sb L : Nat) (xs : Nat → Int32) (E : ZE) (F : ZF E 4 cL_law RL wsL_law room_1 G) (X : ZX E sb L xs) (Q : Int32 → Gr → Gr → Pd → Dy → Gr → Co → Gu → Gm → Gr → Gr → Kp → Ec → Mo → Prop) (hret : ∀ (v : Int32) (u9 : Gr × Gr × Pd × Dy × Gr × Co × Gu × Gm × Gr × Gr × Kp × Ec × Mo) (lv : List (Nat × Value)) (pc : Nat), Q v u9.1 u9.2.1 u9.2.2.1 u9.2.2.2.1 u9.2.2.2.2.1 u9.2.2.2.2.2.1 u9.2.2.2.2.2.2.1 u9.2.2.2.2.2.2.2.1 u9.2.2.2.2.2.2.2.2.1 u9.2.2.2.2.2.2.2.2.2.1 u9.2.2.2.2.2.2.2.2.2.2.1 u9.2.2.2.2.2.2.2.2.2.2.2.1 u9.2.2.2.2.2.2.2.2.2.2.2.2 → decode cL_law pc = .ok (.ireturn, 1) → Z E 4 72 4457 (w_law G a ab u9.1 u9.2.1 u9.2.2.1 u9.2.2.2.1 u9.2.2.2.2.1 u9.2.2.2.2.2.1 u9.2.2.2.2.2.2.1 u9.2.2.2.2.2.2.2.1 u9.2.2.2.2.2.2.2.2.1 u9.2.2.2.2.2.2.2.2.2.1 u9.2.2.2.2.2.2.2.2.2.2.1 u9.2.2.2.2.2.2.2.2.2.2.2.1 u9.2.2.2.2.2.2.2.2.2.2.2.2) lv pc [.int v]) (K18 : Gr → Gr → Pd → Dy → Gr → Co → Gu → Gm → Gr → Gr → Kp → Ec → Mo → Int32 → Prop) (hJ : ∀ (vg : Gr) (vs : Gr) (vp : Pd) (vy : Dy) (ve : Gr) (vc : Co) (vu : Gu) (vt : Gm) (vi : Gr) (vj : Gr) (vk : Kp) (vh : Ec) (vm : Mo) (x3 : Int32), wpL_law_B1044 xs L Q K18 vg vs vp vy ve vc vu vt vi vj vk vh vm x3 → Z E 4 72 4457 (w_law G a ab vg vs vp vy ve vc vu vt vi vj vk vh vm) [(0, .ref (sb)), (1, .ref (a 0)), (2, .ref (ab 0)), (3, .int x3)] 1044 []) (vg : Gr) (vs : Gr) (vp : Pd) (vy : Dy) (ve : Gr) (vc : Co) (vu : Gu) (vt : Gm) (vi : Gr) (vj : Gr) (vk : Kp) (vh : Ec) (vm : Mo) (x3 : Int32) (h : (vp_in (x3 + (1 : Int32)) L ∧ (wpX6_hue vg vc (xs ((x3 + (1 : Int32))).toNatClampNeg) (fun r_67 vg_68 vc_69 => (vp_in (x3 + (1 : Int32)) L ∧ (wpX7_hue vm (xs ((x3 + (1 : Int32))).toNatClampNeg) (fun r_70 vm_71 => ((r_67 = r_70 → wpL_law_B1044 xs L Q K18 vg_68 vs vp vy ve vc_69 vu vt vi vj vk vh vm_71 x3) ∧ (¬ r_67 = r_70 → Q (0 : Int32) vg_68 vs vp vy ve vc_69 vu vt vi vj vk vh vm_71))))))))) : Z E 4 72 4457 (w_law G a ab vg vs vp vy ve vc vu vt vi vj vk vh vm) [(0, .ref (sb)), (1, .ref (a 0)), (2, .ref (ab 0)), (3, .int x3)] 473 [] := by
  refine z_aload_n F dL_law_473 rfl 1 rfl ?_
  refine z_aload_n F dL_law_474 rfl 0 rfl ?_
  refine z_iload_n F dL_law_475 rfl 3 rfl ?_
  refine z_iconst (v := 1) F dL_law_476 rfl ?_
  refine z_iadd F dL_law_477 ?_
  have h9 := h.1
  have h := h.2
  refine z_sld F X h9 dL_law_478 ?_
  refine z_callVi2 (wr_S4 G a ab vs vp vy ve vu vt vi vj vk vh vm) (fun u9 => w_law G a ab u9.1 vs vp vy ve u9.2 vu vt vi vj vk vh vm) F (mX6_hue G a vg vc (xs ((x3 + (1 : Int32))).toNatClampNeg) _ h) gL_law_X6_hue rfl hdX6_hue ⟨rfl, rfl, Nat.le_of_ble_eq_true rfl, Nat.le_of_ble_eq_true rfl, Nat.le_of_ble_eq_true rfl, Nat.le_of_ble_eq_true rfl⟩ 0 rfl rfl [0, 1, 2, 3, 4, 5, 6, 7, 8, 28, 29] [9, 10, 11, 12, 13, 14, 15, 16, 17, 18, 19, 20, 21, 22, 23, 24, 25, 26, 27, 30, 31, 32, 33, 34, 35, 36, 37, 38, 39, 40, 41, 42, 43, 44, 45, 46, 47, 48, 49, 50, 51, 52, 53, 54, 55, 56, 57, 58, 59, 60, 61, 62, 63, 64, 65, 66, 67, 68, 69, 70, 71] [61, 62, 63, 64, 65, 66, 67, 68, 69, 0, 1, 2, 3, 4, 5, 6, 7, 8, 9, 10, 11, 12, 13, 14, 15, 16, 17, 18, 70, 71, 19, 20, 21, 22, 23, 24, 25, 26, 27, 28, 29, 30, 31, 32, 33, 34, 35, 36, 37, 38, 39, 40, 41, 42, 43, 44, 45, 46, 47, 48, 49, 50, 51, 52, 53, 54, 55, 56, 57, 58, 59, 60] (lc_S4_C G a ab vg vs vp vy ve vc vu vt vi vj vk vh vm) (lc_S4_R G a ab vg vs vp vy ve vc vu vt vi vj vk vh vm) lc_S4_n (fun u9 => lc_S4_P G a ab u9.1 vs vp vy ve u9.2 vu vt vi vj vk vh vm) rfl (Nat.le_of_ble_eq_true rfl) dL_law_479 (fun r_67 u9 h => ?_)
  obtain ⟨vg_68, vc_69⟩ := u9
  refine z_w (w' := w_law G a ab vg_68 vs vp vy ve vc_69 vu vt vi vj vk vh vm) rfl ?_
  refine z_aload_n F dL_law_482 rfl 2 rfl ?_
  refine z_aload_n F dL_law_483 rfl 0 rfl ?_
  refine z_iload_n F dL_law_484 rfl 3 rfl ?_
  refine z_iconst (v := 1) F dL_law_485 rfl ?_
  refine z_iadd F dL_law_486 ?_
  have h9 := h.1
  have h := h.2
  refine z_sld F X h9 dL_law_487 ?_
  refine z_callVi2 (wr_S1 G a ab vg_68 vs vp vy ve vc_69 vu vt vi vj vk vh) (fun u9 => w_law G a ab vg_68 vs vp vy ve vc_69 vu vt vi vj vk vh u9) F (mX7_hue G ab vm (xs ((x3 + (1 : Int32))).toNatClampNeg) _ h) gL_law_X7_hue rfl hdX7_hue ⟨rfl, rfl, Nat.le_of_ble_eq_true rfl, Nat.le_of_ble_eq_true rfl, Nat.le_of_ble_eq_true rfl, Nat.le_of_ble_eq_true rfl⟩ 55 rfl rfl [55, 56, 57, 58, 59, 60, 61, 62, 63, 64, 65, 66, 67, 68, 69, 70, 71] [0, 1, 2, 3, 4, 5, 6, 7, 8, 9, 10, 11, 12, 13, 14, 15, 16, 17, 18, 19, 20, 21, 22, 23, 24, 25, 26, 27, 28, 29, 30, 31, 32, 33, 34, 35, 36, 37, 38, 39, 40, 41, 42, 43, 44, 45, 46, 47, 48, 49, 50, 51, 52, 53, 54] [0, 1, 2, 3, 4, 5, 6, 7, 8, 9, 10, 11, 12, 13, 14, 15, 16, 17, 18, 19, 20, 21, 22, 23, 24, 25, 26, 27, 28, 29, 30, 31, 32, 33, 34, 35, 36, 37, 38, 39, 40, 41, 42, 43, 44, 45, 46, 47, 48, 49, 50, 51, 52, 53, 54, 55, 56, 57, 58, 59, 60, 61, 62, 63, 64, 65, 66, 67, 68, 69, 70, 71] (lc_S1_C G a ab vg_68 vs vp vy ve vc_69 vu vt vi vj vk vh vm) (lc_S1_R G a ab vg_68 vs vp vy ve vc_69 vu vt vi vj vk vh vm) lc_S1_n (fun u9 => lc_S1_P G a ab vg_68 vs vp vy ve vc_69 vu vt vi vj vk vh u9) rfl (Nat.le_of_ble_eq_true rfl) dL_law_488 (fun r_70 vm_71 h => ?_)
  refine z_icmp_eq 1044 F dL_law_491 (by decide) (fun c9 => ?_) (fun c9 => ?_)
  · have h := h.1 c9
    exact z_lv [0, 1, 2, 3] rfl (hJ vg_68 vs vp vy ve vc_69 vu vt vi vj vk vh vm_71 x3 h)
  · have h := h.2 c9
    refine z_iconst (v := 0) F dL_law_494 rfl ?_
    exact hret (0 : Int32) (vg_68, vs, vp, vy, ve, vc_69, vu, vt, vi, vj, vk, vh, vm_71) _ _ h dL_law_495
set_option maxRecDepth 100000 in
set_option maxHeartbeats 4000000 in
theorem mL_c14 (G : ZG) (a : Nat → Nat) (ab : Nat → Nat) (sb L : Nat) (xs : Nat → Int32) (E : ZE) (F : ZF E 4 cL_law RL wsL_law room_1 G) (X : ZX E sb L xs) (Q : Int32 → Gr → Gr → Pd → Dy → Gr → Co → Gu → Gm → Gr → Gr → Kp → Ec → Mo → Prop) (hret : ∀ (v : Int32) (u9 : Gr × Gr × Pd × Dy × Gr × Co × Gu × Gm × Gr × Gr × Kp × Ec × Mo) (lv : List (Nat × Value)) (pc : Nat), Q v u9.1 u9.2.1 u9.2.2.1 u9.2.2.2.1 u9.2.2.2.2.1 u9.2.2.2.2.2.1 u9.2.2.2.2.2.2.1 u9.2.2.2.2.2.2.2.1 u9.2.2.2.2.2.2.2.2.1 u9.2.2.2.2.2.2.2.2.2.1 u9.2.2.2.2.2.2.2.2.2.2.1 u9.2.2.2.2.2.2.2.2.2.2.2.1 u9.2.2.2.2.2.2.2.2.2.2.2.2 → decode cL_law pc = .ok (.ireturn, 1) → Z E 4 72 4457 (w_law G a ab u9.1 u9.2.1 u9.2.2.1 u9.2.2.2.1 u9.2.2.2.2.1 u9.2.2.2.2.2.1 u9.2.2.2.2.2.2.1 u9.2.2.2.2.2.2.2.1 u9.2.2.2.2.2.2.2.2.1 u9.2.2.2.2.2.2.2.2.2.1 u9.2.2.2.2.2.2.2.2.2.2.1 u9.2.2.2.2.2.2.2.2.2.2.2.1 u9.2.2.2.2.2.2.2.2.2.2.2.2) lv pc [.int v]) (K18 : Gr → Gr → Pd → Dy → Gr → Co → Gu → Gm → Gr → Gr → Kp → Ec → Mo → Int32 → Prop) (hJ : ∀ (vg : Gr) (vs : Gr) (vp : Pd) (vy : Dy) (ve : Gr) (vc : Co) (vu : Gu) (vt : Gm) (vi : Gr) (vj : Gr) (vk : Kp) (vh : Ec) (vm : Mo) (x3 : Int32), wpL_law_B1044 xs L Q K18 vg vs vp vy ve vc vu vt vi vj vk vh vm x3 → Z E 4 72 4457 (w_law G a ab vg vs vp vy ve vc vu vt vi vj vk vh vm) [(0, .ref (sb)), (1, .ref (a 0)), (2, .ref (ab 0)), (3, .int x3)] 1044 []) (vg : Gr) (vs : Gr) (vp : Pd) (vy : Dy) (ve : Gr) (vc : Co) (vu : Gu) (vt : Gm) (vi : Gr) (vj : Gr) (vk : Kp) (vh : Ec) (vm : Mo) (x3 : Int32) (h : (vp_in (x3 + (1 : Int32)) L ∧ (vp_in (x3 + (2 : Int32)) L ∧ (vp_in (x3 + (3 : Int32)) L ∧ (vp_in (x3 + (4 : Int32)) L ∧ (wpX6_make vg vc (xs ((x3 + (1 : Int32))).toNatClampNeg) (xs ((x3 + (2 : Int32))).toNatClampNeg) (xs ((x3 + (3 : Int32))).toNatClampNeg) (xs ((x3 + (4 : Int32))).toNatClampNeg) (fun r_72 vg_73 vc_74 => (vp_in (x3 + (1 : Int32)) L ∧ (vp_in (x3 + (2 : Int32)) L ∧ (vp_in (x3 + (3 : Int32)) L ∧ (vp_in (x3 + (4 : Int32)) L ∧ (wpX7_make vm (xs ((x3 + (1 : Int32))).toNatClampNeg) (xs ((x3 + (2 : Int32))).toNatClampNeg) (xs ((x3 + (3 : Int32))).toNatClampNeg) (xs ((x3 + (4 : Int32))).toNatClampNeg) (fun r_75 vm_76 => ((r_72 = r_75 → wpL_law_B1044 xs L Q K18 vg_73 vs vp vy ve vc_74 vu vt vi vj vk vh vm_76 x3) ∧ (¬ r_72 = r_75 → Q (0 : Int32) vg_73 vs vp vy ve vc_74 vu vt vi vj vk vh vm_76))))))))))))))) : Z E 4 72 4457 (w_law G a ab vg vs vp vy ve vc vu vt vi vj vk vh vm) [(0, .ref (sb)), (1, .ref (a 0)), (2, .ref (ab 0)), (3, .int x3)] 496 [] := by
  refine z_aload_n F dL_law_496 rfl 1 rfl ?_
  refine z_aload_n F dL_law_497 rfl 0 rfl ?_
  refine z_iload_n F dL_law_498 rfl 3 rfl ?_
  refine z_iconst (v := 1) F dL_law_499 rfl ?_
  refine z_iadd F dL_law_500 ?_
  have h9 := h.1
  have h := h.2
  refine z_sld F X h9 dL_law_501 ?_
  refine z_aload_n F dL_law_502 rfl 0 rfl ?_
  refine z_iload_n F dL_law_503 rfl 3 rfl ?_
  refine z_iconst (v := 2) F dL_law_504 rfl ?_
  refine z_iadd F dL_law_505 ?_
  have h9 := h.1
  have h := h.2
  refine z_sld F X h9 dL_law_506 ?_
  refine z_aload_n F dL_law_507 rfl 0 rfl ?_
  refine z_iload_n F dL_law_508 rfl 3 rfl ?_
  refine z_iconst (v := 3) F dL_law_509 rfl ?_
  refine z_iadd F dL_law_510 ?_
  have h9 := h.1
  have h := h.2
  refine z_sld F X h9 dL_law_511 ?_
  refine z_aload_n F dL_law_512 rfl 0 rfl ?_
  refine z_iload_n F dL_law_513 rfl 3 rfl ?_
  refine z_iconst (v := 4) F dL_law_514 rfl ?_
  refine z_iadd F dL_law_515 ?_
  have h9 := h.1
  have h := h.2
  refine z_sld F X h9 dL_law_516 ?_
  refine z_callVi2 (wr_S4 G a ab vs vp vy ve vu vt vi vj vk vh vm) (fun u9 => w_law G a ab u9.1 vs vp vy ve u9.2 vu vt vi vj vk vh vm) F (mX6_make G a vg vc (xs ((x3 + (1 : Int32))).toNatClampNeg) (xs ((x3 + (2 : Int32))).toNatClampNeg) (xs ((x3 + (3 : Int32))).toNatClampNeg) (xs ((x3 + (4 : Int32))).toNatClampNeg) _ h) gL_law_X6_make rfl hdX6_make ⟨rfl, rfl, Nat.le_of_ble_eq_true rfl, Nat.le_of_ble_eq_true rfl, Nat.le_of_ble_eq_true rfl, Nat.le_of_ble_eq_true rfl⟩ 0 rfl rfl [0, 1, 2, 3, 4, 5, 6, 7, 8, 28, 29] [9, 10, 11, 12, 13, 14, 15, 16, 17, 18, 19, 20, 21, 22, 23, 24, 25, 26, 27, 30, 31, 32, 33, 34, 35, 36, 37, 38, 39, 40, 41, 42, 43, 44, 45, 46, 47, 48, 49, 50, 51, 52, 53, 54, 55, 56, 57, 58, 59, 60, 61, 62, 63, 64, 65, 66, 67, 68, 69, 70, 71] [61, 62, 63, 64, 65, 66, 67, 68, 69, 0, 1, 2, 3, 4, 5, 6, 7, 8, 9, 10, 11, 12, 13, 14, 15, 16, 17, 18, 70, 71, 19, 20, 21, 22, 23, 24, 25, 26, 27, 28, 29, 30, 31, 32, 33, 34, 35, 36, 37, 38, 39, 40, 41, 42, 43, 44, 45, 46, 47, 48, 49, 50, 51, 52, 53, 54, 55, 56, 57, 58, 59, 60] (lc_S4_C G a ab vg vs vp vy ve vc vu vt vi vj vk vh vm) (lc_S4_R G a ab vg vs vp vy ve vc vu vt vi vj vk vh vm) lc_S4_n (fun u9 => lc_S4_P G a ab u9.1 vs vp vy ve u9.2 vu vt vi vj vk vh vm) rfl (Nat.le_of_ble_eq_true rfl) dL_law_517 (fun r_72 u9 h => ?_)
  obtain ⟨vg_73, vc_74⟩ := u9
  refine z_w (w' := w_law G a ab vg_73 vs vp vy ve vc_74 vu vt vi vj vk vh vm) rfl ?_
  refine z_aload_n F dL_law_520 rfl 2 rfl ?_
  refine z_aload_n F dL_law_521 rfl 0 rfl ?_
  refine z_iload_n F dL_law_522 rfl 3 rfl ?_
  refine z_iconst (v := 1) F dL_law_523 rfl ?_
  refine z_iadd F dL_law_524 ?_
  have h9 := h.1
  have h := h.2
  refine z_sld F X h9 dL_law_525 ?_
  refine z_aload_n F dL_law_526 rfl 0 rfl ?_
  refine z_iload_n F dL_law_527 rfl 3 rfl ?_
  refine z_iconst (v := 2) F dL_law_528 rfl ?_
  refine z_iadd F dL_law_529 ?_
  have h9 := h.1
  have h := h.2
  refine z_sld F X h9 dL_law_530 ?_
  refine z_aload_n F dL_law_531 rfl 0 rfl ?_
  refine z_iload_n F dL_law_532 rfl 3 rfl ?_
  refine z_iconst (v := 3) F dL_law_533 rfl ?_
  refine z_iadd F dL_law_534 ?_
  have h9 := h.1
  have h := h.2
  refine z_sld F X h9 dL_law_535 ?_
  refine z_aload_n F dL_law_536 rfl 0 rfl ?_
  refine z_iload_n F dL_law_537 rfl 3 rfl ?_
  refine z_iconst (v := 4) F dL_law_538 rfl ?_
  refine z_iadd F dL_law_539 ?_
  have h9 := h.1
  have h := h.2
  refine z_sld F X h9 dL_law_540 ?_
  refine z_callVi2 (wr_S1 G a ab vg_73 vs vp vy ve vc_74 vu vt vi vj vk vh) (fun u9 => w_law G a ab vg_73 vs vp vy ve vc_74 vu vt vi vj vk vh u9) F (mX7_make G ab vm (xs ((x3 + (1 : Int32))).toNatClampNeg) (xs ((x3 + (2 : Int32))).toNatClampNeg) (xs ((x3 + (3 : Int32))).toNatClampNeg) (xs ((x3 + (4 : Int32))).toNatClampNeg) _ h) gL_law_X7_make rfl hdX7_make ⟨rfl, rfl, Nat.le_of_ble_eq_true rfl, Nat.le_of_ble_eq_true rfl, Nat.le_of_ble_eq_true rfl, Nat.le_of_ble_eq_true rfl⟩ 55 rfl rfl [55, 56, 57, 58, 59, 60, 61, 62, 63, 64, 65, 66, 67, 68, 69, 70, 71] [0, 1, 2, 3, 4, 5, 6, 7, 8, 9, 10, 11, 12, 13, 14, 15, 16, 17, 18, 19, 20, 21, 22, 23, 24, 25, 26, 27, 28, 29, 30, 31, 32, 33, 34, 35, 36, 37, 38, 39, 40, 41, 42, 43, 44, 45, 46, 47, 48, 49, 50, 51, 52, 53, 54] [0, 1, 2, 3, 4, 5, 6, 7, 8, 9, 10, 11, 12, 13, 14, 15, 16, 17, 18, 19, 20, 21, 22, 23, 24, 25, 26, 27, 28, 29, 30, 31, 32, 33, 34, 35, 36, 37, 38, 39, 40, 41, 42, 43, 44, 45, 46, 47, 48, 49, 50, 51, 52, 53, 54, 55, 56, 57, 58, 59, 60, 61, 62, 63, 64, 65, 66, 67, 68, 69, 70, 71] (lc_S1_C G a ab vg_73 vs vp vy ve vc_74 vu vt vi vj vk vh vm) (lc_S1_R G a ab vg_73 vs vp vy ve vc_74 vu vt vi vj vk vh vm) lc_S1_n (fun u9 => lc_S1_P G a ab vg_73 vs vp vy ve vc_74 vu vt vi vj vk vh u9) rfl (Nat.le_of_ble_eq_true rfl) dL_law_541 (fun r_75 vm_76 h => ?_)
  refine z_icmp_eq 1044 F dL_law_544 (by decide) (fun c9 => ?_) (fun c9 => ?_)
  · have h := h.1 c9
    exact z_lv [0, 1, 2, 3] rfl (hJ vg_73 vs vp vy ve vc_74 vu vt vi vj vk vh vm_76 x3 h)
  · have h := h.2 c9
    refine z_iconst (v := 0) F dL_law_547 rfl ?_
    exact hret (0 : Int32) (vg_73, vs, vp, vy, ve, vc_74, vu, vt, vi, vj, vk, vh, vm_76) _ _ h dL_law_548
