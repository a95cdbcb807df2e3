set_option maxRecDepth 100000 in
set_option maxHeartbeats 4000000 in
theorem mL_c25 (G : ZG) (a : Nat → Nat) (ab : Nat → Nat) (sb L : Nat) (xs : Nat → Int32) (E : ZE) (F : ZF E 4 cL_law RL wsL_law room_1 G) (X : ZX E sb L xs) (Q : Int32 → Gr → Gr → Pd → Dy → Gr → Co → Gu → Gm → Gr → Gr → Kp → Ec → Mo → Prop) (hret : ∀ (v : Int32) (u9 : Gr × Gr × Pd × Dy × Gr × Co × Gu × Gm × Gr × Gr × Kp × Ec × Mo) (lv : List (Nat × Value)) (pc : Nat), Q v u9.1 u9.2.1 u9.2.2.1 u9.2.2.2.1 u9.2.2.2.2.1 u9.2.2.2.2.2.1 u9.2.2.2.2.2.2.1 u9.2.2.2.2.2.2.2.1 u9.2.2.2.2.2.2.2.2.1 u9.2.2.2.2.2.2.2.2.2.1 u9.2.2.2.2.2.2.2.2.2.2.1 u9.2.2.2.2.2.2.2.2.2.2.2.1 u9.2.2.2.2.2.2.2.2.2.2.2.2 → decode cL_law pc = .ok (.ireturn, 1) → Z E 4 72 4457 (w_law G a ab u9.1 u9.2.1 u9.2.2.1 u9.2.2.2.1 u9.2.2.2.2.1 u9.2.2.2.2.2.1 u9.2.2.2.2.2.2.1 u9.2.2.2.2.2.2.2.1 u9.2.2.2.2.2.2.2.2.1 u9.2.2.2.2.2.2.2.2.2.1 u9.2.2.2.2.2.2.2.2.2.2.1 u9.2.2.2.2.2.2.2.2.2.2.2.1 u9.2.2.2.2.2.2.2.2.2.2.2.2) lv pc [.int v]) (K18 : Gr → Gr → Pd → Dy → Gr → Co → Gu → Gm → Gr → Gr → Kp → Ec → Mo → Int32 → Prop) (hJ : ∀ (vg : Gr) (vs : Gr) (vp : Pd) (vy : Dy) (ve : Gr) (vc : Co) (vu : Gu) (vt : Gm) (vi : Gr) (vj : Gr) (vk : Kp) (vh : Ec) (vm : Mo) (x3 : Int32), wpL_law_B1044 xs L Q K18 vg vs vp vy ve vc vu vt vi vj vk vh vm x3 → Z E 4 72 4457 (w_law G a ab vg vs vp vy ve vc vu vt vi vj vk vh vm) [(0, .ref (sb)), (1, .ref (a 0)), (2, .ref (ab 0)), (3, .int x3)] 1044 []) (vg : Gr) (vs : Gr) (vp : Pd) (vy : Dy) (ve : Gr) (vc : Co) (vu : Gu) (vt : Gm) (vi : Gr) (vj : Gr) (vk : Kp) (vh : Ec) (vm : Mo) (x3 : Int32) (h : (vp_in (x3 + (1 : Int32)) L ∧ (vp_in (x3 + (2 : Int32)) L ∧ (vp_in (x3 + (3 : Int32)) L ∧ (wpX6_year vg vs (xs ((x3 + (1 : Int32))).toNatClampNeg) (xs ((x3 + (2 : Int32))).toNatClampNeg) (xs ((x3 + (3 : Int32))).toNatClampNeg) (fun r_129 vg_130 vs_131 => (vp_in (x3 + (1 : Int32)) L ∧ (vp_in (x3 + (2 : Int32)) L ∧ (vp_in (x3 + (3 : Int32)) L ∧ (wpX7_year vm (xs ((x3 + (1 : Int32))).toNatClampNeg) (xs ((x3 + (2 : Int32))).toNatClampNeg) (xs ((x3 + (3 : Int32))).toNatClampNeg) (fun r_132 vm_133 => ((r_129 = r_132 → wpL_law_B1044 xs L Q K18 vg_130 vs_131 vp vy ve vc vu vt vi vj vk vh vm_133 x3) ∧ (¬ r_129 = r_132 → Q (0 : Int32) vg_130 vs_131 vp vy ve vc vu vt vi vj vk vh vm_133))))))))))))) : Z E 4 72 4457 (w_law G a ab vg vs vp vy ve vc vu vt vi vj vk vh vm) [(0, .ref (sb)), (1, .ref (a 0)), (2, .ref (ab 0)), (3, .int x3)] 932 [] := by
  refine z_aload_n F dL_law_932 rfl 1 rfl ?_
  refine z_aload_n F dL_law_933 rfl 0 rfl ?_
  refine z_iload_n F dL_law_934 rfl 3 rfl ?_
  refine z_iconst (v := 1) F dL_law_935 rfl ?_
  refine z_iadd F dL_law_936 ?_
  have h9 := h.1
  have h := h.2
  refine z_sld F X h9 dL_law_937 ?_
  refine z_aload_n F dL_law_938 rfl 0 rfl ?_
  refine z_iload_n F dL_law_939 rfl 3 rfl ?_
  refine z_iconst (v := 2) F dL_law_940 rfl ?_
  refine z_iadd F dL_law_941 ?_
  have h9 := h.1
  have h := h.2
  refine z_sld F X h9 dL_law_942 ?_
  refine z_aload_n F dL_law_943 rfl 0 rfl ?_
  refine z_iload_n F dL_law_944 rfl 3 rfl ?_
  refine z_iconst (v := 3) F dL_law_945 rfl ?_
  refine z_iadd F dL_law_946 ?_
  have h9 := h.1
  have h := h.2
  refine z_sld F X h9 dL_law_947 ?_
  refine z_callVi2 (wr_S9 G a ab vp vy ve vc vu vt vi vj vk vh vm) (fun u9 => w_law G a ab u9.1 u9.2 vp vy ve vc vu vt vi vj vk vh vm) F (mX6_year G a vg vs (xs ((x3 + (1 : Int32))).toNatClampNeg) (xs ((x3 + (2 : Int32))).toNatClampNeg) (xs ((x3 + (3 : Int32))).toNatClampNeg) _ h) gL_law_X6_year rfl hdX6_year ⟨rfl, rfl, Nat.le_of_ble_eq_true rfl, Nat.le_of_ble_eq_true rfl, Nat.le_of_ble_eq_true rfl, Nat.le_of_ble_eq_true rfl⟩ 0 rfl rfl [0, 1, 2, 3, 4, 5, 6, 7, 8, 9, 10, 11, 12, 13, 14, 15, 16] [17, 18, 19, 20, 21, 22, 23, 24, 25, 26, 27, 28, 29, 30, 31, 32, 33, 34, 35, 36, 37, 38, 39, 40, 41, 42, 43, 44, 45, 46, 47, 48, 49, 50, 51, 52, 53, 54, 55, 56, 57, 58, 59, 60, 61, 62, 63, 64, 65, 66, 67, 68, 69, 70, 71] [55, 56, 57, 58, 59, 60, 61, 62, 63, 64, 65, 66, 67, 68, 69, 70, 71, 0, 1, 2, 3, 4, 5, 6, 7, 8, 9, 10, 11, 12, 13, 14, 15, 16, 17, 18, 19, 20, 21, 22, 23, 24, 25, 26, 27, 28, 29, 30, 31, 32, 33, 34, 35, 36, 37, 38, 39, 40, 41, 42, 43, 44, 45, 46, 47, 48, 49, 50, 51, 52, 53, 54] (lc_S9_C G a ab vg vs vp vy ve vc vu vt vi vj vk vh vm) (lc_S9_R G a ab vg vs vp vy ve vc vu vt vi vj vk vh vm) lc_S9_n (fun u9 => lc_S9_P G a ab u9.1 u9.2 vp vy ve vc vu vt vi vj vk vh vm) rfl (Nat.le_of_ble_eq_true rfl) dL_law_948 (fun r_129 u9 h => ?_)
  obtain ⟨vg_130, vs_131⟩ := u9
  refine z_w (w' := w_law G a ab vg_130 vs_131 vp vy ve vc vu vt vi vj vk vh vm) rfl ?_
  refine z_aload_n F dL_law_951 rfl 2 rfl ?_
  refine z_aload_n F dL_law_952 rfl 0 rfl ?_
  refine z_iload_n F dL_law_953 rfl 3 rfl ?_
  refine z_iconst (v := 1) F dL_law_954 rfl ?_
  refine z_iadd F dL_law_955 ?_
  have h9 := h.1
  have h := h.2
  refine z_sld F X h9 dL_law_956 ?_
  refine z_aload_n F dL_law_957 rfl 0 rfl ?_
  refine z_iload_n F dL_law_958 rfl 3 rfl ?_
  refine z_iconst (v := 2) F dL_law_959 rfl ?_
  refine z_iadd F dL_law_960 ?_
  have h9 := h.1
  have h := h.2
  refine z_sld F X h9 dL_law_961 ?_
  refine z_aload_n F dL_law_962 rfl 0 rfl ?_
  refine z_iload_n F dL_law_963 rfl 3 rfl ?_
  refine z_iconst (v := 3) F dL_law_964 rfl ?_
  refine z_iadd F dL_law_965 ?_
  have h9 := h.1
  have h := h.2
  refine z_sld F X h9 dL_law_966 ?_
  refine z_callVi2 (wr_S1 G a ab vg_130 vs_131 vp vy ve vc vu vt vi vj vk vh) (fun u9 => w_law G a ab vg_130 vs_131 vp vy ve vc vu vt vi vj vk vh u9) F (mX7_year G ab vm (xs ((x3 + (1 : Int32))).toNatClampNeg) (xs ((x3 + (2 : Int32))).toNatClampNeg) (xs ((x3 + (3 : Int32))).toNatClampNeg) _ h) gL_law_X7_year rfl hdX7_year ⟨rfl, rfl, Nat.le_of_ble_eq_true rfl, Nat.le_of_ble_eq_true rfl, Nat.le_of_ble_eq_true rfl, Nat.le_of_ble_eq_true rfl⟩ 55 rfl rfl [55, 56, 57, 58, 59, 60, 61, 62, 63, 64, 65, 66, 67, 68, 69, 70, 71] [0, 1, 2, 3, 4, 5, 6, 7, 8, 9, 10, 11, 12, 13, 14, 15, 16, 17, 18, 19, 20, 21, 22, 23, 24, 25, 26, 27, 28, 29, 30, 31, 32, 33, 34, 35, 36, 37, 38, 39, 40, 41, 42, 43, 44, 45, 46, 47, 48, 49, 50, 51, 52, 53, 54] [0, 1, 2, 3, 4, 5, 6, 7, 8, 9, 10, 11, 12, 13, 14, 15, 16, 17, 18, 19, 20, 21, 22, 23, 24, 25, 26, 27, 28, 29, 30, 31, 32, 33, 34, 35, 36, 37, 38, 39, 40, 41, 42, 43, 44, 45, 46, 47, 48, 49, 50, 51, 52, 53, 54, 55, 56, 57, 58, 59, 60, 61, 62, 63, 64, 65, 66, 67, 68, 69, 70, 71] (lc_S1_C G a ab vg_130 vs_131 vp vy ve vc vu vt vi vj vk vh vm) (lc_S1_R G a ab vg_130 vs_131 vp vy ve vc vu vt vi vj vk vh vm) lc_S1_n (fun u9 => lc_S1_P G a ab vg_130 vs_131 vp vy ve vc vu vt vi vj vk vh u9) rfl (Nat.le_of_ble_eq_true rfl) dL_law_967 (fun r_132 vm_133 h => ?_)
  refine z_icmp_eq 1044 F dL_law_970 (by decide) (fun c9 => ?_) (fun c9 => ?_)
  · have h := h.1 c9
    exact z_lv [0, 1, 2, 3] rfl (hJ vg_130 vs_131 vp vy ve vc vu vt vi vj vk vh vm_133 x3 h)
  · have h := h.2 c9
    refine z_iconst (v := 0) F dL_law_973 rfl ?_
    exact hret (0 : Int32) (vg_130, vs_131, vp, vy, ve, vc, vu, vt, vi, vj, vk, vh, vm_133) _ _ h dL_law_974
set_option maxRecDepth 100000 in
set_option maxHeartbeats 4000000 in
theorem mL_c26 (G : ZG) (a : Nat → Nat) (ab : Nat → Nat) (sb L : Nat) (xs : Nat → Int32) (E : ZE) (F : ZF E 4 cL_law RL wsL_law room_1 G) (X : ZX E sb L xs) (Q : Int32 → Gr → Gr → Pd → Dy → Gr → Co → Gu → Gm → Gr → Gr → Kp → Ec → Mo → Prop) (hret : ∀ (v : Int32) (u9 : Gr × Gr × Pd × Dy × Gr × Co × Gu × Gm × Gr × Gr × Kp × Ec × Mo) (lv : List (Nat × Value)) (pc : Nat), Q v u9.1 u9.2.1 u9.2.2.1 u9.2.2.2.1 u9.2.2.2.2.1 u9.2.2.2.2.2.1 u9.2.2.2.2.2.2.1 u9.2.2.2.2.2.2.2.1 u9.2.2.2.2.2.2.2.2.1 u9.2.2.2.2.2.2.2.2.2.1 u9.2.2.2.2.2.2.2.2.2.2.1 u9.2.2.2.2.2.2.2.2.2.2.2.1 u9.2.2.2.2.2.2.2.2.2.2.2.2 → decode cL_law pc = .ok (.ireturn, 1) → Z E 4 72 4457 (w_law G a ab u9.1 u9.2.1 u9.2.2.1 u9.2.2.2.1 u9.2.2.2.2.1 u9.2.2.2.2.2.1 u9.2.2.2.2.2.2.1 u9.2.2.2.2.2.2.2.1 u9.2.2.2.2.2.2.2.2.1 u9.2.2.2.2.2.2.2.2.2.1 u9.2.2.2.2.2.2.2.2.2.2.1 u9.2.2.2.2.2.2.2.2.2.2.2.1 u9.2.2.2.2.2.2.2.2.2.2.2.2) lv pc [.int v]) (K18 : Gr → Gr → Pd → Dy → Gr → Co → Gu → Gm → Gr → Gr → Kp → Ec → Mo → Int32 → Prop) (hJ : ∀ (vg : Gr) (vs : Gr) (vp : Pd) (vy : Dy) (ve : Gr) (vc : Co) (vu : Gu) (vt : Gm) (vi : Gr) (vj : Gr) (vk : Kp) (vh : Ec) (vm : Mo) (x3 : Int32), wpL_law_B1044 xs L Q K18 vg vs vp vy ve vc vu vt vi vj vk vh vm x3 → Z E 4 72 4457 (w_law G a ab vg vs vp vy ve vc vu vt vi vj vk vh vm) [(0, .ref (sb)), (1, .ref (a 0)), (2, .ref (ab 0)), (3, .int x3)] 1044 []) (vg : Gr) (vs : Gr) (vp : Pd) (vy : Dy) (ve : Gr) (vc : Co) (vu : Gu) (vt : Gm) (vi : Gr) (vj : Gr) (vk : Kp) (vh : Ec) (vm : Mo) (x3 : Int32) (h : (vp_in (x3 + (1 : Int32)) L ∧ (wpX6_image vg vi vj vk (xs ((x3 + (1 : Int32))).toNatClampNeg) (fun r_134 vg_135 vi_136 vj_137 vk_138 => (vp_in (x3 + (1 : Int32)) L ∧ (wpX7_image vm (xs ((x3 + (1 : Int32))).toNatClampNeg) (fun r_139 vm_140 => ((r_134 = r_139 → wpL_law_B1044 xs L Q K18 vg_135 vs vp vy ve vc vu vt vi_136 vj_137 vk_138 vh vm_140 x3) ∧ (¬ r_134 = r_139 → Q (0 : Int32) vg_135 vs vp vy ve vc vu vt vi_136 vj_137 vk_138 vh vm_140))))))))) : Z E 4 72 4457 (w_law G a ab vg vs vp vy ve vc vu vt vi vj vk vh vm) [(0, .ref (sb)), (1, .ref (a 0)), (2, .ref (ab 0)), (3, .int x3)] 975 [] := by
  refine z_aload_n F dL_law_975 rfl 1 rfl ?_
  refine z_aload_n F dL_law_976 rfl 0 rfl ?_
  refine z_iload_n F dL_law_977 rfl 3 rfl ?_
  refine z_iconst (v := 1) F dL_law_978 rfl ?_
  refine z_iadd F dL_law_979 ?_
  have h9 := h.1
  have h := h.2
  refine z_sld F X h9 dL_law_980 ?_
  refine z_callVi2 (wr_S10 G a ab vs vp vy ve vc vu vt vh vm) (fun u9 => w_law G a ab u9.1 vs vp vy ve vc vu vt u9.2.1 u9.2.2.1 u9.2.2.2 vh vm) F (mX6_image G a vg vi vj vk (xs ((x3 + (1 : Int32))).toNatClampNeg) _ h) gL_law_X6_image rfl hdX6_image ⟨rfl, rfl, Nat.le_of_ble_eq_true rfl, Nat.le_of_ble_eq_true rfl, Nat.le_of_ble_eq_true rfl, Nat.le_of_ble_eq_true rfl⟩ 0 rfl rfl [0, 1, 2, 3, 4, 5, 6, 7, 8, 37, 38, 39, 40, 41, 42, 43, 44, 45, 46, 47, 48, 49, 50, 51, 52, 53] [9, 10, 11, 12, 13, 14, 15, 16, 17, 18, 19, 20, 21, 22, 23, 24, 25, 26, 27, 28, 29, 30, 31, 32, 33, 34, 35, 36, 54, 55, 56, 57, 58, 59, 60, 61, 62, 63, 64, 65, 66, 67, 68, 69, 70, 71] [46, 47, 48, 49, 50, 51, 52, 53, 54, 0, 1, 2, 3, 4, 5, 6, 7, 8, 9, 10, 11, 12, 13, 14, 15, 16, 17, 18, 19, 20, 21, 22, 23, 24, 25, 26, 27, 55, 56, 57, 58, 59, 60, 61, 62, 63, 64, 65, 66, 67, 68, 69, 70, 71, 28, 29, 30, 31, 32, 33, 34, 35, 36, 37, 38, 39, 40, 41, 42, 43, 44, 45] (lc_S10_C G a ab vg vs vp vy ve vc vu vt vi vj vk vh vm) (lc_S10_R G a ab vg vs vp vy ve vc vu vt vi vj vk vh vm) lc_S10_n (fun u9 => lc_S10_P G a ab u9.1 vs vp vy ve vc vu vt u9.2.1 u9.2.2.1 u9.2.2.2 vh vm) rfl (Nat.le_of_ble_eq_true rfl) dL_law_981 (fun r_134 u9 h => ?_)
  obtain ⟨vg_135, vi_136, vj_137, vk_138⟩ := u9
  refine z_w (w' := w_law G a ab vg_135 vs vp vy ve vc vu vt vi_136 vj_137 vk_138 vh vm) rfl ?_
  refine z_aload_n F dL_law_984 rfl 2 rfl ?_
  refine z_aload_n F dL_law_985 rfl 0 rfl ?_
  refine z_iload_n F dL_law_986 rfl 3 rfl ?_
  refine z_iconst (v := 1) F dL_law_987 rfl ?_
  refine z_iadd F dL_law_988 ?_
  have h9 := h.1
  have h := h.2
  refine z_sld F X h9 dL_law_989 ?_
  refine z_callVi2 (wr_S1 G a ab vg_135 vs vp vy ve vc vu vt vi_136 vj_137 vk_138 vh) (fun u9 => w_law G a ab vg_135 vs vp vy ve vc vu vt vi_136 vj_137 vk_138 vh u9) F (mX7_image G ab vm (xs ((x3 + (1 : Int32))).toNatClampNeg) _ h) gL_law_X7_image rfl hdX7_image ⟨rfl, rfl, Nat.le_of_ble_eq_true rfl, Nat.le_of_ble_eq_true rfl, Nat.le_of_ble_eq_true rfl, Nat.le_of_ble_eq_true rfl⟩ 55 rfl rfl [55, 56, 57, 58, 59, 60, 61, 62, 63, 64, 65, 66, 67, 68, 69, 70, 71] [0, 1, 2, 3, 4, 5, 6, 7, 8, 9, 10, 11, 12, 13, 14, 15, 16, 17, 18, 19, 20, 21, 22, 23, 24, 25, 26, 27, 28, 29, 30, 31, 32, 33, 34, 35, 36, 37, 38, 39, 40, 41, 42, 43, 44, 45, 46, 47, 48, 49, 50, 51, 52, 53, 54] [0, 1, 2, 3, 4, 5, 6, 7, 8, 9, 10, 11, 12, 13, 14, 15, 16, 17, 18, 19, 20, 21, 22, 23, 24, 25, 26, 27, 28, 29, 30, 31, 32, 33, 34, 35, 36, 37, 38, 39, 40, 41, 42, 43, 44, 45, 46, 47, 48, 49, 50, 51, 52, 53, 54, 55, 56, 57, 58, 59, 60, 61, 62, 63, 64, 65, 66, 67, 68, 69, 70, 71] (lc_S1_C G a ab vg_135 vs vp vy ve vc vu vt vi_136 vj_137 vk_138 vh vm) (lc_S1_R G a ab vg_135 vs vp vy ve vc vu vt vi_136 vj_137 vk_138 vh vm) lc_S1_n (fun u9 => lc_S1_P G a ab vg_135 vs vp vy ve vc vu vt vi_136 vj_137 vk_138 vh u9) rfl (Nat.le_of_ble_eq_true rfl) dL_law_990 (fun r_139 vm_140 h => ?_)
  refine z_icmp_eq 1044 F dL_law_993 (by decide) (fun c9 => ?_) (fun c9 => ?_)
  · have h := h.1 c9
    exact z_lv [0, 1, 2, 3] rfl (hJ vg_135 vs vp vy ve vc vu vt vi_136 vj_137 vk_138 vh vm_140 x3 h)
  · have h := h.2 c9
    refine z_iconst (v := 0) F dL_law_996 rfl ?_
    exact hret (0 : Int32) (vg_135, vs, vp, vy, ve, vc, vu, vt, vi_136, vj_137, vk_138, vh, vm_140) _ _ h dL_law_997
set_option maxRecDepth 100000 in
set_option maxHeartbeats 4000000 in
theorem mL_c27 (G : ZG) (a : Nat → Nat) (ab : Nat → Nat) (sb L : Nat) (xs : Nat → Int32) (E : ZE) (F : ZF E 4 cL_law RL wsL_law room_1 G) (X : ZX E sb L xs) (Q : Int32 → Gr → Gr → Pd → Dy → Gr → Co → Gu → Gm → Gr → Gr → Kp → Ec → Mo → Prop) (hret : ∀ (v : Int32) (u9 : Gr × Gr × Pd × Dy × Gr × Co × Gu × Gm × Gr × Gr × Kp × Ec × Mo) (lv : List (Nat × Value)) (pc : Nat), Q v u9.1 u9.2.1 u9.2.2.1 u9.2.2.2.1 u9.2.2.2.2.1 u9.2.2.2.2.2.1 u9.2.2.2.2.2.2.1 u9.2.2.2.2.2.2.2.1 u9.2.2.2.2.2.2.2.2.1 u9.2.2.2.2.2.2.2.2.2.1 u9.2.2.2.2.2.2.2.2.2.2.1 u9.2.2.2.2.2.2.2.2.2.2.2.1 u9.2.2.2.2.2.2.2.2.2.2.2.2 → decode cL_law pc = .ok (.ireturn, 1) → Z E 4 72 4457 (w_law G a ab u9.1 u9.2.1 u9.2.2.1 u9.2.2.2.1 u9.2.2.2.2.1 u9.2.2.2.2.2.1 u9.2.2.2.2.2.2.1 u9.2.2.2.2.2.2.2.1 u9.2.2.2.2.2.2.2.2.1 u9.2.2.2.2.2.2.2.2.2.1 u9.2.2.2.2.2.2.2.2.2.2.1 u9.2.2.2.2.2.2.2.2.2.2.2.1 u9.2.2.2.2.2.2.2.2.2.2.2.2) lv pc [.int v]) (K18 : Gr → Gr → Pd → Dy → Gr → Co → Gu → Gm → Gr → Gr → Kp → Ec → Mo → Int32 → Prop) (hJ : ∀ (vg : Gr) (vs : Gr) (vp : Pd) (vy : Dy) (ve : Gr) (vc : Co) (vu : Gu) (vt : Gm) (vi : Gr) (vj : Gr) (vk : Kp) (vh : Ec) (vm : Mo) (x3 : Int32), wpL_law_B1044 xs L Q K18 vg vs vp vy ve vc vu vt vi vj vk vh vm x3 → Z E 4 72 4457 (w_law G a ab vg vs vp vy ve vc vu vt vi vj vk vh vm) [(0, .ref (sb)), (1, .ref (a 0)), (2, .ref (ab 0)), (3, .int x3)] 1044 []) (vg : Gr) (vs : Gr) (vp : Pd) (vy : Dy) (ve : Gr) (vc : Co) (vu : Gu) (vt : Gm) (vi : Gr) (vj : Gr) (vk : Kp) (vh : Ec) (vm : Mo) (x3 : Int32) (h : (vp_in (x3 + (1 : Int32)) L ∧ (wpX6_restore vg vi vj vk (xs ((x3 + (1 : Int32))).toNatClampNeg) (fun r_141 vg_142 vi_143 vj_144 vk_145 => (vp_in (x3 + (1 : Int32)) L ∧ (wpX7_restore vm (xs ((x3 + (1 : Int32))).toNatClampNeg) (fun r_146 vm_147 => ((r_141 = r_146 → wpL_law_B1044 xs L Q K18 vg_142 vs vp vy ve vc vu vt vi_143 vj_144 vk_145 vh vm_147 x3) ∧ (¬ r_141 = r_146 → Q (0 : Int32) vg_142 vs vp vy ve vc vu vt vi_143 vj_144 vk_145 vh vm_147))))))))) : Z E 4 72 4457 (w_law G a ab vg vs vp vy ve vc vu vt vi vj vk vh vm) [(0, .ref (sb)), (1, .ref (a 0)), (2, .ref (ab 0)), (3, .int x3)] 998 [] := by
  refine z_aload_n F dL_law_998 rfl 1 rfl ?_
  refine z_aload_n F dL_law_999 rfl 0 rfl ?_
  refine z_iload_n F dL_law_1000 rfl 3 rfl ?_
  refine z_iconst (v := 1) F dL_law_1001 rfl ?_
  refine z_iadd F dL_law_1002 ?_
  have h9 := h.1
  have h := h.2
  refine z_sld F X h9 dL_law_1003 ?_
  refine z_callVi2 (wr_S10 G a ab vs vp vy ve vc vu vt vh vm) (fun u9 => w_law G a ab u9.1 vs vp vy ve vc vu vt u9.2.1 u9.2.2.1 u9.2.2.2 vh vm) F (mX6_restore G a vg vi vj vk (xs ((x3 + (1 : Int32))).toNatClampNeg) _ h) gL_law_X6_restore rfl hdX6_restore ⟨rfl, rfl, Nat.le_of_ble_eq_true rfl, Nat.le_of_ble_eq_true rfl, Nat.le_of_ble_eq_true rfl, Nat.le_of_ble_eq_true rfl⟩ 0 rfl rfl [0, 1, 2, 3, 4, 5, 6, 7, 8, 37, 38, 39, 40, 41, 42, 43, 44, 45, 46, 47, 48, 49, 50, 51, 52, 53] [9, 10, 11, 12, 13, 14, 15, 16, 17, 18, 19, 20, 21, 22, 23, 24, 25, 26, 27, 28, 29, 30, 31, 32, 33, 34, 35, 36, 54, 55, 56, 57, 58, 59, 60, 61, 62, 63, 64, 65, 66, 67, 68, 69, 70, 71] [46, 47, 48, 49, 50, 51, 52, 53, 54, 0, 1, 2, 3, 4, 5, 6, 7, 8, 9, 10, 11, 12, 13, 14, 15, 16, 17, 18, 19, 20, 21, 22, 23, 24, 25, 26, 27, 55, 56, 57, 58, 59, 60, 61, 62, 63, 64, 65, 66, 67, 68, 69, 70, 71, 28, 29, 30, 31, 32, 33, 34, 35, 36, 37, 38, 39, 40, 41, 42, 43, 44, 45] (lc_S10_C G a ab vg vs vp vy ve vc vu vt vi vj vk vh vm) (lc_S10_R G a ab vg vs vp vy ve vc vu vt vi vj vk vh vm) lc_S10_n (fun u9 => lc_S10_P G a ab u9.1 vs vp vy ve vc vu vt u9.2.1 u9.2.2.1 u9.2.2.2 vh vm) rfl (Nat.le_of_ble_eq_true rfl) dL_law_1004 (fun r_141 u9 h => ?_)
  obtain ⟨vg_142, vi_143, vj_144, vk_145⟩ := u9
  refine z_w (w' := w_law G a ab vg_142 vs vp vy ve vc vu vt vi_143 vj_144 vk_145 vh vm) rfl ?_
  refine z_aload_n F dL_law_1007 rfl 2 rfl ?_
  refine z_aload_n F dL_law_1008 rfl 0 rfl ?_
  refine z_iload_n F dL_law_1009 rfl 3 rfl ?_
  refine z_iconst (v := 1) F dL_law_1010 rfl ?_
  refine z_iadd F dL_law_1011 ?_
  have h9 := h.1
  have h := h.2
  refine z_sld F X h9 dL_law_1012 ?_
  refine z_callVi2 (wr_S1 G a ab vg_142 vs vp vy ve vc vu vt vi_143 vj_144 vk_145 vh) (fun u9 => w_law G a ab vg_142 vs vp vy ve vc vu vt vi_143 vj_144 vk_145 vh u9) F (mX7_restore G ab vm (xs ((x3 + (1 : Int32))).toNatClampNeg) _ h) gL_law_X7_restore rfl hdX7_restore ⟨rfl, rfl, Nat.le_of_ble_eq_true rfl, Nat.le_of_ble_eq_true rfl, Nat.le_of_ble_eq_true rfl, Nat.le_of_ble_eq_true rfl⟩ 55 rfl rfl [55, 56, 57, 58, 59, 60, 61, 62, 63, 64, 65, 66, 67, 68, 69, 70, 71] [0, 1, 2, 3, 4, 5, 6, 7, 8, 9, 10, 11, 12, 13, 14, 15, 16, 17, 18, 19, 20, 21, 22, 23, 24, 25, 26, 27, 28, 29, 30, 31, 32, 33, 34, 35, 36, 37, 38, 39, 40, 41, 42, 43, 44, 45, 46, 47, 48, 49, 50, 51, 52, 53, 54] [0, 1, 2, 3, 4, 5, 6, 7, 8, 9, 10, 11, 12, 13, 14, 15, 16, 17, 18, 19, 20, 21, 22, 23, 24, 25, 26, 27, 28, 29, 30, 31, 32, 33, 34, 35, 36, 37, 38, 39, 40, 41, 42, 43, 44, 45, 46, 47, 48, 49, 50, 51, 52, 53, 54, 55, 56, 57, 58, 59, 60, 61, 62, 63, 64, 65, 66, 67, 68, 69, 70, 71] (lc_S1_C G a ab vg_142 vs vp vy ve vc vu vt vi_143 vj_144 vk_145 vh vm) (lc_S1_R G a ab vg_142 vs vp vy ve vc vu vt vi_143 vj_144 vk_145 vh vm) lc_S1_n (fun u9 => lc_S1_P G a ab vg_142 vs vp vy ve vc vu vt vi_143 vj_144 vk_145 vh u9) rfl (Nat.le_of_ble_eq_true rfl) dL_law_1013 (fun r_146 vm_147 h => ?_)
  refine z_icmp_eq 1044 F dL_law_1016 (by decide) (fun c9 => ?_) (fun c9 => ?_)
  · have h := h.1 c9
    exact z_lv [0, 1, 2, 3] rfl (hJ vg_142 vs vp vy ve vc vu vt vi_143 vj_144 vk_145 vh vm_147 x3 h)
  · have h := h.2 c9
    refine z_iconst (v := 0) F dL_law_1019 rfl ?_
    exact hret (0 : Int32) (vg_142, vs, vp, vy, ve, vc, vu, vt, vi_143, vj_144, vk_145, vh, vm_147) _ _ h dL_law_1020
set_option maxRecDepth 100000 in
set_option maxHeartbeats 4000000 in
theorem mL_c28 (G : ZG) (a : Nat → Nat) (ab : Nat → Nat) (sb L : Nat) (xs : Nat → Int32) (E : ZE) (F : ZF E 4 cL_law RL wsL_law room_1 G) (X : ZX E sb L xs) (Q : Int32 → Gr → Gr → Pd → Dy → Gr → Co → Gu → Gm → Gr → Gr → Kp → Ec → Mo → Prop) (hret : ∀ (v : Int32) (u9 : Gr × Gr × Pd × Dy × Gr × Co × Gu × Gm × Gr × Gr × Kp × Ec × Mo) (lv : List (Nat × Value)) (pc : Nat), Q v u9.1 u9.2.1 u9.2.2.1 u9.2.2.2.1 u9.2.2.2.2.1 u9.2.2.2.2.2.1 u9.2.2.2.2.2.2.1 u9.2.2.2.2.2.2.2.1 u9.2.2.2.2.2.2.2.2.1 u9.2.2.2.2.2.2.2.2.2.1 u9.2.2.2.2.2.2.2.2.2.2.1 u9.2.2.2.2.2.2.2.2.2.2.2.1 u9.2.2.2.2.2.2.2.2.2.2.2.2 → decode cL_law pc = .ok (.ireturn, 1) → Z E 4 72 4457 (w_law G a ab u9.1 u9.2.1 u9.2.2.1 u9.2.2.2.1 u9.2.2.2.2.1 u9.2.2.2.2.2.1 u9.2.2.2.2.2.2.1 u9.2.2.2.2.2.2.2.1 u9.2.2.2.2.2.2.2.2.1 u9.2.2.2.2.2.2.2.2.2.1 u9.2.2.2.2.2.2.2.2.2.2.1 u9.2.2.2.2.2.2.2.2.2.2.2.1 u9.2.2.2.2.2.2.2.2.2.2.2.2) lv pc [.int v]) (K18 : Gr → Gr → Pd → Dy → Gr → Co → Gu → Gm → Gr → Gr → Kp → Ec → Mo → Int32 → Prop) (hJ : ∀ (vg : Gr) (vs : Gr) (vp : Pd) (vy : Dy) (ve : Gr) (vc : Co) (vu : Gu) (vt : Gm) (vi : Gr) (vj : Gr) (vk : Kp) (vh : Ec) (vm : Mo) (x3 : Int32), wpL_law_B1044 xs L Q K18 vg vs vp vy ve vc vu vt vi vj vk vh vm x3 → Z E 4 72 4457 (w_law G a ab vg vs vp vy ve vc vu vt vi vj vk vh vm) [(0, .ref (sb)), (1, .ref (a 0)), (2, .ref (ab 0)), (3, .int x3)] 1044 []) (vg : Gr) (vs : Gr) (vp : Pd) (vy : Dy) (ve : Gr) (vc : Co) (vu : Gu) (vt : Gm) (vi : Gr) (vj : Gr) (vk : Kp) (vh : Ec) (vm : Mo) (x3 : Int32) (h : (vp_in (x3 + (1 : Int32)) L ∧ (wpX6_told vg vp (xs ((x3 + (1 : Int32))).toNatClampNeg) (fun r_148 vg_149 vp_150 => (vp_in (x3 + (1 : Int32)) L ∧ (wpX7_told vm (xs ((x3 + (1 : Int32))).toNatClampNeg) (fun r_151 vm_152 => ((r_148 = r_151 → wpL_law_B1044 xs L Q K18 vg_149 vs vp_150 vy ve vc vu vt vi vj vk vh vm_152 x3) ∧ (¬ r_148 = r_151 → Q (0 : Int32) vg_149 vs vp_150 vy ve vc vu vt vi vj vk vh vm_152))))))))) : Z E 4 72 4457 (w_law G a ab vg vs vp vy ve vc vu vt vi vj vk vh vm) [(0, .ref (sb)), (1, .ref (a 0)), (2, .ref (ab 0)), (3, .int x3)] 1021 [] := by
  refine z_aload_n F dL_law_1021 rfl 1 rfl ?_
  refine z_aload_n F dL_law_1022 rfl 0 rfl ?_
  refine z_iload_n F dL_law_1023 rfl 3 rfl ?_
  refine z_iconst (v := 1) F dL_law_1024 rfl ?_
  refine z_iadd F dL_law_1025 ?_
  have h9 := h.1
  have h := h.2
  refine z_sld F X h9 dL_law_1026 ?_
  refine z_callVi2 (wr_S11 G a ab vs vy ve vc vu vt vi vj vk vh vm) (fun u9 => w_law G a ab u9.1 vs u9.2 vy ve vc vu vt vi vj vk vh vm) F (mX6_told G a vg vp (xs ((x3 + (1 : Int32))).toNatClampNeg) _ h) gL_law_X6_told rfl hdX6_told ⟨rfl, rfl, Nat.le_of_ble_eq_true rfl, Nat.le_of_ble_eq_true rfl, Nat.le_of_ble_eq_true rfl, Nat.le_of_ble_eq_true rfl⟩ 0 rfl rfl [0, 1, 2, 3, 4, 5, 6, 7, 8, 17, 18] [9, 10, 11, 12, 13, 14, 15, 16, 19, 20, 21, 22, 23, 24, 25, 26, 27, 28, 29, 30, 31, 32, 33, 34, 35, 36, 37, 38, 39, 40, 41, 42, 43, 44, 45, 46, 47, 48, 49, 50, 51, 52, 53, 54, 55, 56, 57, 58, 59, 60, 61, 62, 63, 64, 65, 66, 67, 68, 69, 70, 71] [61, 62, 63, 64, 65, 66, 67, 68, 69, 0, 1, 2, 3, 4, 5, 6, 7, 70, 71, 8, 9, 10, 11, 12, 13, 14, 15, 16, 17, 18, 19, 20, 21, 22, 23, 24, 25, 26, 27, 28, 29, 30, 31, 32, 33, 34, 35, 36, 37, 38, 39, 40, 41, 42, 43, 44, 45, 46, 47, 48, 49, 50, 51, 52, 53, 54, 55, 56, 57, 58, 59, 60] (lc_S11_C G a ab vg vs vp vy ve vc vu vt vi vj vk vh vm) (lc_S11_R G a ab vg vs vp vy ve vc vu vt vi vj vk vh vm) lc_S11_n (fun u9 => lc_S11_P G a ab u9.1 vs u9.2 vy ve vc vu vt vi vj vk vh vm) rfl (Nat.le_of_ble_eq_true rfl) dL_law_1027 (fun r_148 u9 h => ?_)
  obtain ⟨vg_149, vp_150⟩ := u9
  refine z_w (w' := w_law G a ab vg_149 vs vp_150 vy ve vc vu vt vi vj vk vh vm) rfl ?_
  refine z_aload_n F dL_law_1030 rfl 2 rfl ?_
  refine z_aload_n F dL_law_1031 rfl 0 rfl ?_
  refine z_iload_n F dL_law_1032 rfl 3 rfl ?_
  refine z_iconst (v := 1) F dL_law_1033 rfl ?_
  refine z_iadd F dL_law_1034 ?_
  have h9 := h.1
  have h := h.2
  refine z_sld F X h9 dL_law_1035 ?_
  refine z_callVi2 (wr_S1 G a ab vg_149 vs vp_150 vy ve vc vu vt vi vj vk vh) (fun u9 => w_law G a ab vg_149 vs vp_150 vy ve vc vu vt vi vj vk vh u9) F (mX7_told G ab vm (xs ((x3 + (1 : Int32))).toNatClampNeg) _ h) gL_law_X7_told rfl hdX7_told ⟨rfl, rfl, Nat.le_of_ble_eq_true rfl, Nat.le_of_ble_eq_true rfl, Nat.le_of_ble_eq_true rfl, Nat.le_of_ble_eq_true rfl⟩ 55 rfl rfl [55, 56, 57, 58, 59, 60, 61, 62, 63, 64, 65, 66, 67, 68, 69, 70, 71] [0, 1, 2, 3, 4, 5, 6, 7, 8, 9, 10, 11, 12, 13, 14, 15, 16, 17, 18, 19, 20, 21, 22, 23, 24, 25, 26, 27, 28, 29, 30, 31, 32, 33, 34, 35, 36, 37, 38, 39, 40, 41, 42, 43, 44, 45, 46, 47, 48, 49, 50, 51, 52, 53, 54] [0, 1, 2, 3, 4, 5, 6, 7, 8, 9, 10, 11, 12, 13, 14, 15, 16, 17, 18, 19, 20, 21, 22, 23, 24, 25, 26, 27, 28, 29, 30, 31, 32, 33, 34, 35, 36, 37, 38, 39, 40, 41, 42, 43, 44, 45, 46, 47, 48, 49, 50, 51, 52, 53, 54, 55, 56, 57, 58, 59, 60, 61, 62, 63, 64, 65, 66, 67, 68, 69, 70, 71] (lc_S1_C G a ab vg_149 vs vp_150 vy ve vc vu vt vi vj vk vh vm) (lc_S1_R G a ab vg_149 vs vp_150 vy ve vc vu vt vi vj vk vh vm) lc_S1_n (fun u9 => lc_S1_P G a ab vg_149 vs vp_150 vy ve vc vu vt vi vj vk vh u9) rfl (Nat.le_of_ble_eq_true rfl) dL_law_1036 (fun r_151 vm_152 h => ?_)
  refine z_icmp_eq 1044 F dL_law_1039 (by decide) (fun c9 => ?_) (fun c9 => ?_)
  · have h := h.1 c9
    exact z_lv [0, 1, 2, 3] rfl (hJ vg_149 vs vp_150 vy ve vc vu vt vi vj vk vh vm_152 x3 h)
  · have h := h.2 c9
    refine z_iconst (v := 0) F dL_law_1042 rfl ?_
    exact hret (0 : Int32) (vg_149, vs, vp_150, vy, ve, vc, vu, vt, vi, vj, vk, vh, vm_152) _ _ h dL_law_1043
