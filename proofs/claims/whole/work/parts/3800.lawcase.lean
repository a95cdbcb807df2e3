set_option maxRecDepth 100000 in
set_option maxHeartbeats 4000000 in
theorem mL_c0 (G : ZG) (a : Nat → Nat) (ab : Nat → Nat) (sb L : Nat) (xs : Nat → Int32) (E : ZE) (F : ZF E 4 cL_law RL wsL_law room_1 G) (X : ZX E sb L xs) (Q : Int32 → Gr → Gr → Pd → Dy → Gr → Co → Gu → Gm → Gr → Gr → Kp → Ec → Mo → Prop) (hret : ∀ (v : Int32) (u9 : Gr × Gr × Pd × Dy × Gr × Co × Gu × Gm × Gr × Gr × Kp × Ec × Mo) (lv : List (Nat × Value)) (pc : Nat), Q v u9.1 u9.2.1 u9.2.2.1 u9.2.2.2.1 u9.2.2.2.2.1 u9.2.2.2.2.2.1 u9.2.2.2.2.2.2.1 u9.2.2.2.2.2.2.2.1 u9.2.2.2.2.2.2.2.2.1 u9.2.2.2.2.2.2.2.2.2.1 u9.2.2.2.2.2.2.2.2.2.2.1 u9.2.2.2.2.2.2.2.2.2.2.2.1 u9.2.2.2.2.2.2.2.2.2.2.2.2 → decode cL_law pc = .ok (.ireturn, 1) → Z E 4 72 4457 (w_law G a ab u9.1 u9.2.1 u9.2.2.1 u9.2.2.2.1 u9.2.2.2.2.1 u9.2.2.2.2.2.1 u9.2.2.2.2.2.2.1 u9.2.2.2.2.2.2.2.1 u9.2.2.2.2.2.2.2.2.1 u9.2.2.2.2.2.2.2.2.2.1 u9.2.2.2.2.2.2.2.2.2.2.1 u9.2.2.2.2.2.2.2.2.2.2.2.1 u9.2.2.2.2.2.2.2.2.2.2.2.2) lv pc [.int v]) (K18 : Gr → Gr → Pd → Dy → Gr → Co → Gu → Gm → Gr → Gr → Kp → Ec → Mo → Int32 → Prop) (hJ : ∀ (vg : Gr) (vs : Gr) (vp : Pd) (vy : Dy) (ve : Gr) (vc : Co) (vu : Gu) (vt : Gm) (vi : Gr) (vj : Gr) (vk : Kp) (vh : Ec) (vm : Mo) (x3 : Int32), wpL_law_B1044 xs L Q K18 vg vs vp vy ve vc vu vt vi vj vk vh vm x3 → Z E 4 72 4457 (w_law G a ab vg vs vp vy ve vc vu vt vi vj vk vh vm) [(0, .ref (sb)), (1, .ref (a 0)), (2, .ref (ab 0)), (3, .int x3)] 1044 []) (vg : Gr) (vs : Gr) (vp : Pd) (vy : Dy) (ve : Gr) (vc : Co) (vu : Gu) (vt : Gm) (vi : Gr) (vj : Gr) (vk : Kp) (vh : Ec) (vm : Mo) (x3 : Int32) (h : (vp_in (x3 + (1 : Int32)) L ∧ (vp_in (x3 + (2 : Int32)) L ∧ (vp_in (x3 + (3 : Int32)) L ∧ (wpX6_wall vg (xs ((x3 + (1 : Int32))).toNatClampNeg) (xs ((x3 + (2 : Int32))).toNatClampNeg) (xs ((x3 + (3 : Int32))).toNatClampNeg) (fun r_1 vg_2 => (vp_in (x3 + (1 : Int32)) L ∧ (vp_in (x3 + (2 : Int32)) L ∧ (vp_in (x3 + (3 : Int32)) L ∧ (wpX7_wall vm (xs ((x3 + (1 : Int32))).toNatClampNeg) (xs ((x3 + (2 : Int32))).toNatClampNeg) (xs ((x3 + (3 : Int32))).toNatClampNeg) (fun r_3 vm_4 => ((r_1 = r_3 → wpL_law_B1044 xs L Q K18 vg_2 vs vp vy ve vc vu vt vi vj vk vh vm_4 x3) ∧ (¬ r_1 = r_3 → Q (0 : Int32) vg_2 vs vp vy ve vc vu vt vi vj vk vh vm_4))))))))))))) : Z E 4 72 4457 (w_law G a ab vg vs vp vy ve vc vu vt vi vj vk vh vm) [(0, .ref (sb)), (1, .ref (a 0)), (2, .ref (ab 0)), (3, .int x3)] 164 [] := by
  refine z_aload_n F dL_law_164 rfl 1 rfl ?_
  refine z_aload_n F dL_law_165 rfl 0 rfl ?_
  refine z_iload_n F dL_law_166 rfl 3 rfl ?_
  refine z_iconst (v := 1) F dL_law_167 rfl ?_
  refine z_iadd F dL_law_168 ?_
  have h9 := h.1
  have h := h.2
  refine z_sld F X h9 dL_law_169 ?_
  refine z_aload_n F dL_law_170 rfl 0 rfl ?_
  refine z_iload_n F dL_law_171 rfl 3 rfl ?_
  refine z_iconst (v := 2) F dL_law_172 rfl ?_
  refine z_iadd F dL_law_173 ?_
  have h9 := h.1
  have h := h.2
  refine z_sld F X h9 dL_law_174 ?_
  refine z_aload_n F dL_law_175 rfl 0 rfl ?_
  refine z_iload_n F dL_law_176 rfl 3 rfl ?_
  refine z_iconst (v := 3) F dL_law_177 rfl ?_
  refine z_iadd F dL_law_178 ?_
  have h9 := h.1
  have h := h.2
  refine z_sld F X h9 dL_law_179 ?_
  refine z_callVi2 (wr_S0 G a ab vs vp vy ve vc vu vt vi vj vk vh vm) (fun u9 => w_law G a ab u9 vs vp vy ve vc vu vt vi vj vk vh vm) F (mX6_wall G a vg (xs ((x3 + (1 : Int32))).toNatClampNeg) (xs ((x3 + (2 : Int32))).toNatClampNeg) (xs ((x3 + (3 : Int32))).toNatClampNeg) _ h) gL_law_X6_wall rfl hdX6_wall ⟨rfl, rfl, Nat.le_of_ble_eq_true rfl, Nat.le_of_ble_eq_true rfl, Nat.le_of_ble_eq_true rfl, Nat.le_of_ble_eq_true rfl⟩ 0 rfl rfl [0, 1, 2, 3, 4, 5, 6, 7, 8] [9, 10, 11, 12, 13, 14, 15, 16, 17, 18, 19, 20, 21, 22, 23, 24, 25, 26, 27, 28, 29, 30, 31, 32, 33, 34, 35, 36, 37, 38, 39, 40, 41, 42, 43, 44, 45, 46, 47, 48, 49, 50, 51, 52, 53, 54, 55, 56, 57, 58, 59, 60, 61, 62, 63, 64, 65, 66, 67, 68, 69, 70, 71] [63, 64, 65, 66, 67, 68, 69, 70, 71, 0, 1, 2, 3, 4, 5, 6, 7, 8, 9, 10, 11, 12, 13, 14, 15, 16, 17, 18, 19, 20, 21, 22, 23, 24, 25, 26, 27, 28, 29, 30, 31, 32, 33, 34, 35, 36, 37, 38, 39, 40, 41, 42, 43, 44, 45, 46, 47, 48, 49, 50, 51, 52, 53, 54, 55, 56, 57, 58, 59, 60, 61, 62] (lc_S0_C G a ab vg vs vp vy ve vc vu vt vi vj vk vh vm) (lc_S0_R G a ab vg vs vp vy ve vc vu vt vi vj vk vh vm) lc_S0_n (fun u9 => lc_S0_P G a ab u9 vs vp vy ve vc vu vt vi vj vk vh vm) rfl (Nat.le_of_ble_eq_true rfl) dL_law_180 (fun r_1 vg_2 h => ?_)
  refine z_aload_n F dL_law_183 rfl 2 rfl ?_
  refine z_aload_n F dL_law_184 rfl 0 rfl ?_
  refine z_iload_n F dL_law_185 rfl 3 rfl ?_
  refine z_iconst (v := 1) F dL_law_186 rfl ?_
  refine z_iadd F dL_law_187 ?_
  have h9 := h.1
  have h := h.2
  refine z_sld F X h9 dL_law_188 ?_
  refine z_aload_n F dL_law_189 rfl 0 rfl ?_
  refine z_iload_n F dL_law_190 rfl 3 rfl ?_
  refine z_iconst (v := 2) F dL_law_191 rfl ?_
  refine z_iadd F dL_law_192 ?_
  have h9 := h.1
  have h := h.2
  refine z_sld F X h9 dL_law_193 ?_
  refine z_aload_n F dL_law_194 rfl 0 rfl ?_
  refine z_iload_n F dL_law_195 rfl 3 rfl ?_
  refine z_iconst (v := 3) F dL_law_196 rfl ?_
  refine z_iadd F dL_law_197 ?_
  have h9 := h.1
  have h := h.2
  refine z_sld F X h9 dL_law_198 ?_
  refine z_callVi2 (wr_S1 G a ab vg_2 vs vp vy ve vc vu vt vi vj vk vh) (fun u9 => w_law G a ab vg_2 vs vp vy ve vc vu vt vi vj vk vh u9) F (mX7_wall G ab vm (xs ((x3 + (1 : Int32))).toNatClampNeg) (xs ((x3 + (2 : Int32))).toNatClampNeg) (xs ((x3 + (3 : Int32))).toNatClampNeg) _ h) gL_law_X7_wall rfl hdX7_wall ⟨rfl, rfl, Nat.le_of_ble_eq_true rfl, Nat.le_of_ble_eq_true rfl, Nat.le_of_ble_eq_true rfl, Nat.le_of_ble_eq_true rfl⟩ 55 rfl rfl [55, 56, 57, 58, 59, 60, 61, 62, 63, 64, 65, 66, 67, 68, 69, 70, 71] [0, 1, 2, 3, 4, 5, 6, 7, 8, 9, 10, 11, 12, 13, 14, 15, 16, 17, 18, 19, 20, 21, 22, 23, 24, 25, 26, 27, 28, 29, 30, 31, 32, 33, 34, 35, 36, 37, 38, 39, 40, 41, 42, 43, 44, 45, 46, 47, 48, 49, 50, 51, 52, 53, 54] [0, 1, 2, 3, 4, 5, 6, 7, 8, 9, 10, 11, 12, 13, 14, 15, 16, 17, 18, 19, 20, 21, 22, 23, 24, 25, 26, 27, 28, 29, 30, 31, 32, 33, 34, 35, 36, 37, 38, 39, 40, 41, 42, 43, 44, 45, 46, 47, 48, 49, 50, 51, 52, 53, 54, 55, 56, 57, 58, 59, 60, 61, 62, 63, 64, 65, 66, 67, 68, 69, 70, 71] (lc_S1_C G a ab vg_2 vs vp vy ve vc vu vt vi vj vk vh vm) (lc_S1_R G a ab vg_2 vs vp vy ve vc vu vt vi vj vk vh vm) lc_S1_n (fun u9 => lc_S1_P G a ab vg_2 vs vp vy ve vc vu vt vi vj vk vh u9) rfl (Nat.le_of_ble_eq_true rfl) dL_law_199 (fun r_3 vm_4 h => ?_)
  refine z_icmp_eq 1044 F dL_law_202 (by decide) (fun c9 => ?_) (fun c9 => ?_)
  · have h := h.1 c9
    exact z_lv [0, 1, 2, 3] rfl (hJ vg_2 vs vp vy ve vc vu vt vi vj vk vh vm_4 x3 h)
  · have h := h.2 c9
    refine z_iconst (v := 0) F dL_law_205 rfl ?_
    exact hret (0 : Int32) (vg_2, vs, vp, vy, ve, vc, vu, vt, vi, vj, vk, vh, vm_4) _ _ h dL_law_206
set_option maxRecDepth 100000 in
set_option maxHeartbeats 4000000 in
theorem mL_c1 (G : ZG) (a : Nat → Nat) (ab : Nat → Nat) (sb L : Nat) (xs : Nat → Int32) (E : ZE) (F : ZF E 4 cL_law RL wsL_law room_1 G) (X : ZX E sb L xs) (Q : Int32 → Gr → Gr → Pd → Dy → Gr → Co → Gu → Gm → Gr → Gr → Kp → Ec → Mo → Prop) (hret : ∀ (v : Int32) (u9 : Gr × Gr × Pd × Dy × Gr × Co × Gu × Gm × Gr × Gr × Kp × Ec × Mo) (lv : List (Nat × Value)) (pc : Nat), Q v u9.1 u9.2.1 u9.2.2.1 u9.2.2.2.1 u9.2.2.2.2.1 u9.2.2.2.2.2.1 u9.2.2.2.2.2.2.1 u9.2.2.2.2.2.2.2.1 u9.2.2.2.2.2.2.2.2.1 u9.2.2.2.2.2.2.2.2.2.1 u9.2.2.2.2.2.2.2.2.2.2.1 u9.2.2.2.2.2.2.2.2.2.2.2.1 u9.2.2.2.2.2.2.2.2.2.2.2.2 → decode cL_law pc = .ok (.ireturn, 1) → Z E 4 72 4457 (w_law G a ab u9.1 u9.2.1 u9.2.2.1 u9.2.2.2.1 u9.2.2.2.2.1 u9.2.2.2.2.2.1 u9.2.2.2.2.2.2.1 u9.2.2.2.2.2.2.2.1 u9.2.2.2.2.2.2.2.2.1 u9.2.2.2.2.2.2.2.2.2.1 u9.2.2.2.2.2.2.2.2.2.2.1 u9.2.2.2.2.2.2.2.2.2.2.2.1 u9.2.2.2.2.2.2.2.2.2.2.2.2) lv pc [.int v]) (K18 : Gr → Gr → Pd → Dy → Gr → Co → Gu → Gm → Gr → Gr → Kp → Ec → Mo → Int32 → Prop) (hJ : ∀ (vg : Gr) (vs : Gr) (vp : Pd) (vy : Dy) (ve : Gr) (vc : Co) (vu : Gu) (vt : Gm) (vi : Gr) (vj : Gr) (vk : Kp) (vh : Ec) (vm : Mo) (x3 : Int32), wpL_law_B1044 xs L Q K18 vg vs vp vy ve vc vu vt vi vj vk vh vm x3 → Z E 4 72 4457 (w_law G a ab vg vs vp vy ve vc vu vt vi vj vk vh vm) [(0, .ref (sb)), (1, .ref (a 0)), (2, .ref (ab 0)), (3, .int x3)] 1044 []) (vg : Gr) (vs : Gr) (vp : Pd) (vy : Dy) (ve : Gr) (vc : Co) (vu : Gu) (vt : Gm) (vi : Gr) (vj : Gr) (vk : Kp) (vh : Ec) (vm : Mo) (x3 : Int32) (h : (vp_in (x3 + (1 : Int32)) L ∧ (vp_in (x3 + (2 : Int32)) L ∧ (vp_in (x3 + (3 : Int32)) L ∧ (vp_in (x3 + (4 : Int32)) L ∧ (wpX6_dress vg (xs ((x3 + (1 : Int32))).toNatClampNeg) (xs ((x3 + (2 : Int32))).toNatClampNeg) (xs ((x3 + (3 : Int32))).toNatClampNeg) (xs ((x3 + (4 : Int32))).toNatClampNeg) (fun r_5 vg_6 => (vp_in (x3 + (1 : Int32)) L ∧ (vp_in (x3 + (2 : Int32)) L ∧ (vp_in (x3 + (3 : Int32)) L ∧ (vp_in (x3 + (4 : Int32)) L ∧ (wpX7_dress vm (xs ((x3 + (1 : Int32))).toNatClampNeg) (xs ((x3 + (2 : Int32))).toNatClampNeg) (xs ((x3 + (3 : Int32))).toNatClampNeg) (xs ((x3 + (4 : Int32))).toNatClampNeg) (fun r_7 vm_8 => ((r_5 = r_7 → wpL_law_B1044 xs L Q K18 vg_6 vs vp vy ve vc vu vt vi vj vk vh vm_8 x3) ∧ (¬ r_5 = r_7 → Q (0 : Int32) vg_6 vs vp vy ve vc vu vt vi vj vk vh vm_8))))))))))))))) : Z E 4 72 4457 (w_law G a ab vg vs vp vy ve vc vu vt vi vj vk vh vm) [(0, .ref (sb)), (1, .ref (a 0)), (2, .ref (ab 0)), (3, .int x3)] 207 [] := by
  refine z_aload_n F dL_law_207 rfl 1 rfl ?_
  refine z_aload_n F dL_law_208 rfl 0 rfl ?_
  refine z_iload_n F dL_law_209 rfl 3 rfl ?_
  refine z_iconst (v := 1) F dL_law_210 rfl ?_
  refine z_iadd F dL_law_211 ?_
  have h9 := h.1
  have h := h.2
  refine z_sld F X h9 dL_law_212 ?_
  refine z_aload_n F dL_law_213 rfl 0 rfl ?_
  refine z_iload_n F dL_law_214 rfl 3 rfl ?_
  refine z_iconst (v := 2) F dL_law_215 rfl ?_
  refine z_iadd F dL_law_216 ?_
  have h9 := h.1
  have h := h.2
  refine z_sld F X h9 dL_law_217 ?_
  refine z_aload_n F dL_law_218 rfl 0 rfl ?_
  refine z_iload_n F dL_law_219 rfl 3 rfl ?_
  refine z_iconst (v := 3) F dL_law_220 rfl ?_
  refine z_iadd F dL_law_221 ?_
  have h9 := h.1
  have h := h.2
  refine z_sld F X h9 dL_law_222 ?_
  refine z_aload_n F dL_law_223 rfl 0 rfl ?_
  refine z_iload_n F dL_law_224 rfl 3 rfl ?_
  refine z_iconst (v := 4) F dL_law_225 rfl ?_
  refine z_iadd F dL_law_226 ?_
  have h9 := h.1
  have h := h.2
  refine z_sld F X h9 dL_law_227 ?_
  refine z_callVi2 (wr_S0 G a ab vs vp vy ve vc vu vt vi vj vk vh vm) (fun u9 => w_law G a ab u9 vs vp vy ve vc vu vt vi vj vk vh vm) F (mX6_dress G a vg (xs ((x3 + (1 : Int32))).toNatClampNeg) (xs ((x3 + (2 : Int32))).toNatClampNeg) (xs ((x3 + (3 : Int32))).toNatClampNeg) (xs ((x3 + (4 : Int32))).toNatClampNeg) _ h) gL_law_X6_dress rfl hdX6_dress ⟨rfl, rfl, Nat.le_of_ble_eq_true rfl, Nat.le_of_ble_eq_true rfl, Nat.le_of_ble_eq_true rfl, Nat.le_of_ble_eq_true rfl⟩ 0 rfl rfl [0, 1, 2, 3, 4, 5, 6, 7, 8] [9, 10, 11, 12, 13, 14, 15, 16, 17, 18, 19, 20, 21, 22, 23, 24, 25, 26, 27, 28, 29, 30, 31, 32, 33, 34, 35, 36, 37, 38, 39, 40, 41, 42, 43, 44, 45, 46, 47, 48, 49, 50, 51, 52, 53, 54, 55, 56, 57, 58, 59, 60, 61, 62, 63, 64, 65, 66, 67, 68, 69, 70, 71] [63, 64, 65, 66, 67, 68, 69, 70, 71, 0, 1, 2, 3, 4, 5, 6, 7, 8, 9, 10, 11, 12, 13, 14, 15, 16, 17, 18, 19, 20, 21, 22, 23, 24, 25, 26, 27, 28, 29, 30, 31, 32, 33, 34, 35, 36, 37, 38, 39, 40, 41, 42, 43, 44, 45, 46, 47, 48, 49, 50, 51, 52, 53, 54, 55, 56, 57, 58, 59, 60, 61, 62] (lc_S0_C G a ab vg vs vp vy ve vc vu vt vi vj vk vh vm) (lc_S0_R G a ab vg vs vp vy ve vc vu vt vi vj vk vh vm) lc_S0_n (fun u9 => lc_S0_P G a ab u9 vs vp vy ve vc vu vt vi vj vk vh vm) rfl (Nat.le_of_ble_eq_true rfl) dL_law_228 (fun r_5 vg_6 h => ?_)
  refine z_aload_n F dL_law_231 rfl 2 rfl ?_
  refine z_aload_n F dL_law_232 rfl 0 rfl ?_
  refine z_iload_n F dL_law_233 rfl 3 rfl ?_
  refine z_iconst (v := 1) F dL_law_234 rfl ?_
  refine z_iadd F dL_law_235 ?_
  have h9 := h.1
  have h := h.2
  refine z_sld F X h9 dL_law_236 ?_
  refine z_aload_n F dL_law_237 rfl 0 rfl ?_
  refine z_iload_n F dL_law_238 rfl 3 rfl ?_
  refine z_iconst (v := 2) F dL_law_239 rfl ?_
  refine z_iadd F dL_law_240 ?_
  have h9 := h.1
  have h := h.2
  refine z_sld F X h9 dL_law_241 ?_
  refine z_aload_n F dL_law_242 rfl 0 rfl ?_
  refine z_iload_n F dL_law_243 rfl 3 rfl ?_
  refine z_iconst (v := 3) F dL_law_244 rfl ?_
  refine z_iadd F dL_law_245 ?_
  have h9 := h.1
  have h := h.2
  refine z_sld F X h9 dL_law_246 ?_
  refine z_aload_n F dL_law_247 rfl 0 rfl ?_
  refine z_iload_n F dL_law_248 rfl 3 rfl ?_
  refine z_iconst (v := 4) F dL_law_249 rfl ?_
  refine z_iadd F dL_law_250 ?_
  have h9 := h.1
  have h := h.2
  refine z_sld F X h9 dL_law_251 ?_
  refine z_callVi2 (wr_S1 G a ab vg_6 vs vp vy ve vc vu vt vi vj vk vh) (fun u9 => w_law G a ab vg_6 vs vp vy ve vc vu vt vi vj vk vh u9) F (mX7_dress G ab vm (xs ((x3 + (1 : Int32))).toNatClampNeg) (xs ((x3 + (2 : Int32))).toNatClampNeg) (xs ((x3 + (3 : Int32))).toNatClampNeg) (xs ((x3 + (4 : Int32))).toNatClampNeg) _ h) gL_law_X7_dress rfl hdX7_dress ⟨rfl, rfl, Nat.le_of_ble_eq_true rfl, Nat.le_of_ble_eq_true rfl, Nat.le_of_ble_eq_true rfl, Nat.le_of_ble_eq_true rfl⟩ 55 rfl rfl [55, 56, 57, 58, 59, 60, 61, 62, 63, 64, 65, 66, 67, 68, 69, 70, 71] [0, 1, 2, 3, 4, 5, 6, 7, 8, 9, 10, 11, 12, 13, 14, 15, 16, 17, 18, 19, 20, 21, 22, 23, 24, 25, 26, 27, 28, 29, 30, 31, 32, 33, 34, 35, 36, 37, 38, 39, 40, 41, 42, 43, 44, 45, 46, 47, 48, 49, 50, 51, 52, 53, 54] [0, 1, 2, 3, 4, 5, 6, 7, 8, 9, 10, 11, 12, 13, 14, 15, 16, 17, 18, 19, 20, 21, 22, 23, 24, 25, 26, 27, 28, 29, 30, 31, 32, 33, 34, 35, 36, 37, 38, 39, 40, 41, 42, 43, 44, 45, 46, 47, 48, 49, 50, 51, 52, 53, 54, 55, 56, 57, 58, 59, 60, 61, 62, 63, 64, 65, 66, 67, 68, 69, 70, 71] (lc_S1_C G a ab vg_6 vs vp vy ve vc vu vt vi vj vk vh vm) (lc_S1_R G a ab vg_6 vs vp vy ve vc vu vt vi vj vk vh vm) lc_S1_n (fun u9 => lc_S1_P G a ab vg_6 vs vp vy ve vc vu vt vi vj vk vh u9) rfl (Nat.le_of_ble_eq_true rfl) dL_law_252 (fun r_7 vm_8 h => ?_)
  refine z_icmp_eq 1044 F dL_law_255 (by decide) (fun c9 => ?_) (fun c9 => ?_)
  · have h := h.1 c9
    exact z_lv [0, 1, 2, 3] rfl (hJ vg_6 vs vp vy ve vc vu vt vi vj vk vh vm_8 x3 h)
  · have h := h.2 c9
    refine z_iconst (v := 0) F dL_law_258 rfl ?_
    exact hret (0 : Int32) (vg_6, vs, vp, vy, ve, vc, vu, vt, vi, vj, vk, vh, vm_8) _ _ h dL_law_259
set_option maxRecDepth 100000 in
set_option maxHeartbeats 4000000 in
theorem mL_c2 (G : ZG) (a : Nat → Nat) (ab : Nat → Nat) (sb L : Nat) (xs : Nat → Int32) (E : ZE) (F : ZF E 4 cL_law RL wsL_law room_1 G) (X : ZX E sb L xs) (Q : Int32 → Gr → Gr → Pd → Dy → Gr → Co → Gu → Gm → Gr → Gr → Kp → Ec → Mo → Prop) (hret : ∀ (v : Int32) (u9 : Gr × Gr × Pd × Dy × Gr × Co × Gu × Gm × Gr × Gr × Kp × Ec × Mo) (lv : List (Nat × Value)) (pc : Nat), Q v u9.1 u9.2.1 u9.2.2.1 u9.2.2.2.1 u9.2.2.2.2.1 u9.2.2.2.2.2.1 u9.2.2.2.2.2.2.1 u9.2.2.2.2.2.2.2.1 u9.2.2.2.2.2.2.2.2.1 u9.2.2.2.2.2.2.2.2.2.1 u9.2.2.2.2.2.2.2.2.2.2.1 u9.2.2.2.2.2.2.2.2.2.2.2.1 u9.2.2.2.2.2.2.2.2.2.2.2.2 → decode cL_law pc = .ok (.ireturn, 1) → Z E 4 72 4457 (w_law G a ab u9.1 u9.2.1 u9.2.2.1 u9.2.2.2.1 u9.2.2.2.2.1 u9.2.2.2.2.2.1 u9.2.2.2.2.2.2.1 u9.2.2.2.2.2.2.2.1 u9.2.2.2.2.2.2.2.2.1 u9.2.2.2.2.2.2.2.2.2.1 u9.2.2.2.2.2.2.2.2.2.2.1 u9.2.2.2.2.2.2.2.2.2.2.2.1 u9.2.2.2.2.2.2.2.2.2.2.2.2) lv pc [.int v]) (K18 : Gr → Gr → Pd → Dy → Gr → Co → Gu → Gm → Gr → Gr → Kp → Ec → Mo → Int32 → Prop) (hJ : ∀ (vg : Gr) (vs : Gr) (vp : Pd) (vy : Dy) (ve : Gr) (vc : Co) (vu : Gu) (vt : Gm) (vi : Gr) (vj : Gr) (vk : Kp) (vh : Ec) (vm : Mo) (x3 : Int32), wpL_law_B1044 xs L Q K18 vg vs vp vy ve vc vu vt vi vj vk vh vm x3 → Z E 4 72 4457 (w_law G a ab vg vs vp vy ve vc vu vt vi vj vk vh vm) [(0, .ref (sb)), (1, .ref (a 0)), (2, .ref (ab 0)), (3, .int x3)] 1044 []) (vg : Gr) (vs : Gr) (vp : Pd) (vy : Dy) (ve : Gr) (vc : Co) (vu : Gu) (vt : Gm) (vi : Gr) (vj : Gr) (vk : Kp) (vh : Ec) (vm : Mo) (x3 : Int32) (h : (vp_in (x3 + (1 : Int32)) L ∧ (wpX6_limit vg (xs ((x3 + (1 : Int32))).toNatClampNeg) (fun r_9 vg_10 => (vp_in (x3 + (1 : Int32)) L ∧ (wpX7_limit vm (xs ((x3 + (1 : Int32))).toNatClampNeg) (fun r_11 vm_12 => ((r_9 = r_11 → wpL_law_B1044 xs L Q K18 vg_10 vs vp vy ve vc vu vt vi vj vk vh vm_12 x3) ∧ (¬ r_9 = r_11 → Q (0 : Int32) vg_10 vs vp vy ve vc vu vt vi vj vk vh vm_12))))))))) : Z E 4 72 4457 (w_law G a ab vg vs vp vy ve vc vu vt vi vj vk vh vm) [(0, .ref (sb)), (1, .ref (a 0)), (2, .ref (ab 0)), (3, .int x3)] 260 [] := by
  refine z_aload_n F dL_law_260 rfl 1 rfl ?_
  refine z_aload_n F dL_law_261 rfl 0 rfl ?_
  refine z_iload_n F dL_law_262 rfl 3 rfl ?_
  refine z_iconst (v := 1) F dL_law_263 rfl ?_
  refine z_iadd F dL_law_264 ?_
  have h9 := h.1
  have h := h.2
  refine z_sld F X h9 dL_law_265 ?_
  refine z_callVi2 (wr_S0 G a ab vs vp vy ve vc vu vt vi vj vk vh vm) (fun u9 => w_law G a ab u9 vs vp vy ve vc vu vt vi vj vk vh vm) F (mX6_limit G a vg (xs ((x3 + (1 : Int32))).toNatClampNeg) _ h) gL_law_X6_limit rfl hdX6_limit ⟨rfl, rfl, Nat.le_of_ble_eq_true rfl, Nat.le_of_ble_eq_true rfl, Nat.le_of_ble_eq_true rfl, Nat.le_of_ble_eq_true rfl⟩ 0 rfl rfl [0, 1, 2, 3, 4, 5, 6, 7, 8] [9, 10, 11, 12, 13, 14, 15, 16, 17, 18, 19, 20, 21, 22, 23, 24, 25, 26, 27, 28, 29, 30, 31, 32, 33, 34, 35, 36, 37, 38, 39, 40, 41, 42, 43, 44, 45, 46, 47, 48, 49, 50, 51, 52, 53, 54, 55, 56, 57, 58, 59, 60, 61, 62, 63, 64, 65, 66, 67, 68, 69, 70, 71] [63, 64, 65, 66, 67, 68, 69, 70, 71, 0, 1, 2, 3, 4, 5, 6, 7, 8, 9, 10, 11, 12, 13, 14, 15, 16, 17, 18, 19, 20, 21, 22, 23, 24, 25, 26, 27, 28, 29, 30, 31, 32, 33, 34, 35, 36, 37, 38, 39, 40, 41, 42, 43, 44, 45, 46, 47, 48, 49, 50, 51, 52, 53, 54, 55, 56, 57, 58, 59, 60, 61, 62] (lc_S0_C G a ab vg vs vp vy ve vc vu vt vi vj vk vh vm) (lc_S0_R G a ab vg vs vp vy ve vc vu vt vi vj vk vh vm) lc_S0_n (fun u9 => lc_S0_P G a ab u9 vs vp vy ve vc vu vt vi vj vk vh vm) rfl (Nat.le_of_ble_eq_true rfl) dL_law_266 (fun r_9 vg_10 h => ?_)
  refine z_aload_n F dL_law_269 rfl 2 rfl ?_
  refine z_aload_n F dL_law_270 rfl 0 rfl ?_
  refine z_iload_n F dL_law_271 rfl 3 rfl ?_
  refine z_iconst (v := 1) F dL_law_272 rfl ?_
  refine z_iadd F dL_law_273 ?_
  have h9 := h.1
  have h := h.2
  refine z_sld F X h9 dL_law_274 ?_
  refine z_callVi2 (wr_S1 G a ab vg_10 vs vp vy ve vc vu vt vi vj vk vh) (fun u9 => w_law G a ab vg_10 vs vp vy ve vc vu vt vi vj vk vh u9) F (mX7_limit G ab vm (xs ((x3 + (1 : Int32))).toNatClampNeg) _ h) gL_law_X7_limit rfl hdX7_limit ⟨rfl, rfl, Nat.le_of_ble_eq_true rfl, Nat.le_of_ble_eq_true rfl, Nat.le_of_ble_eq_true rfl, Nat.le_of_ble_eq_true rfl⟩ 55 rfl rfl [55, 56, 57, 58, 59, 60, 61, 62, 63, 64, 65, 66, 67, 68, 69, 70, 71] [0, 1, 2, 3, 4, 5, 6, 7, 8, 9, 10, 11, 12, 13, 14, 15, 16, 17, 18, 19, 20, 21, 22, 23, 24, 25, 26, 27, 28, 29, 30, 31, 32, 33, 34, 35, 36, 37, 38, 39, 40, 41, 42, 43, 44, 45, 46, 47, 48, 49, 50, 51, 52, 53, 54] [0, 1, 2, 3, 4, 5, 6, 7, 8, 9, 10, 11, 12, 13, 14, 15, 16, 17, 18, 19, 20, 21, 22, 23, 24, 25, 26, 27, 28, 29, 30, 31, 32, 33, 34, 35, 36, 37, 38, 39, 40, 41, 42, 43, 44, 45, 46, 47, 48, 49, 50, 51, 52, 53, 54, 55, 56, 57, 58, 59, 60, 61, 62, 63, 64, 65, 66, 67, 68, 69, 70, 71] (lc_S1_C G a ab vg_10 vs vp vy ve vc vu vt vi vj vk vh vm) (lc_S1_R G a ab vg_10 vs vp vy ve vc vu vt vi vj vk vh vm) lc_S1_n (fun u9 => lc_S1_P G a ab vg_10 vs vp vy ve vc vu vt vi vj vk vh u9) rfl (Nat.le_of_ble_eq_true rfl) dL_law_275 (fun r_11 vm_12 h => ?_)
  refine z_icmp_eq 1044 F dL_law_278 (by decide) (fun c9 => ?_) (fun c9 => ?_)
  · have h := h.1 c9
    exact z_lv [0, 1, 2, 3] rfl (hJ vg_10 vs vp vy ve vc vu vt vi vj vk vh vm_12 x3 h)
  · have h := h.2 c9
    refine z_iconst (v := 0) F dL_law_281 rfl ?_
    exact hret (0 : Int32) (vg_10, vs, vp, vy, ve, vc, vu, vt, vi, vj, vk, vh, vm_12) _ _ h dL_law_282
set_option maxRecDepth 100000 in
set_option maxHeartbeats 4000000 in
theorem mL_c3 (G : ZG) (a : Nat → Nat) (ab : Nat → Nat) (sb L : Nat) (xs : Nat → Int32) (E : ZE) (F : ZF E 4 cL_law RL wsL_law room_1 G) (X : ZX E sb L xs) (Q : Int32 → Gr → Gr → Pd → Dy → Gr → Co → Gu → Gm → Gr → Gr → Kp → Ec → Mo → Prop) (hret : ∀ (v : Int32) (u9 : Gr × Gr × Pd × Dy × Gr × Co × Gu × Gm × Gr × Gr × Kp × Ec × Mo) (lv : List (Nat × Value)) (pc : Nat), Q v u9.1 u9.2.1 u9.2.2.1 u9.2.2.2.1 u9.2.2.2.2.1 u9.2.2.2.2.2.1 u9.2.2.2.2.2.2.1 u9.2.2.2.2.2.2.2.1 u9.2.2.2.2.2.2.2.2.1 u9.2.2.2.2.2.2.2.2.2.1 u9.2.2.2.2.2.2.2.2.2.2.1 u9.2.2.2.2.2.2.2.2.2.2.2.1 u9.2.2.2.2.2.2.2.2.2.2.2.2 → decode cL_law pc = .ok (.ireturn, 1) → Z E 4 72 4457 (w_law G a ab u9.1 u9.2.1 u9.2.2.1 u9.2.2.2.1 u9.2.2.2.2.1 u9.2.2.2.2.2.1 u9.2.2.2.2.2.2.1 u9.2.2.2.2.2.2.2.1 u9.2.2.2.2.2.2.2.2.1 u9.2.2.2.2.2.2.2.2.2.1 u9.2.2.2.2.2.2.2.2.2.2.1 u9.2.2.2.2.2.2.2.2.2.2.2.1 u9.2.2.2.2.2.2.2.2.2.2.2.2) lv pc [.int v]) (K18 : Gr → Gr → Pd → Dy → Gr → Co → Gu → Gm → Gr → Gr → Kp → Ec → Mo → Int32 → Prop) (hJ : ∀ (vg : Gr) (vs : Gr) (vp : Pd) (vy : Dy) (ve : Gr) (vc : Co) (vu : Gu) (vt : Gm) (vi : Gr) (vj : Gr) (vk : Kp) (vh : Ec) (vm : Mo) (x3 : Int32), wpL_law_B1044 xs L Q K18 vg vs vp vy ve vc vu vt vi vj vk vh vm x3 → Z E 4 72 4457 (w_law G a ab vg vs vp vy ve vc vu vt vi vj vk vh vm) [(0, .ref (sb)), (1, .ref (a 0)), (2, .ref (ab 0)), (3, .int x3)] 1044 []) (vg : Gr) (vs : Gr) (vp : Pd) (vy : Dy) (ve : Gr) (vc : Co) (vu : Gu) (vt : Gm) (vi : Gr) (vj : Gr) (vk : Kp) (vh : Ec) (vm : Mo) (x3 : Int32) (h : (vp_in (x3 + (1 : Int32)) L ∧ (wpX6_say vp (xs ((x3 + (1 : Int32))).toNatClampNeg) (fun r_13 vp_14 => (vp_in (x3 + (1 : Int32)) L ∧ (wpX7_say vm (xs ((x3 + (1 : Int32))).toNatClampNeg) (fun r_15 vm_16 => ((r_13 = r_15 → wpL_law_B1044 xs L Q K18 vg vs vp_14 vy ve vc vu vt vi vj vk vh vm_16 x3) ∧ (¬ r_13 = r_15 → Q (0 : Int32) vg vs vp_14 vy ve vc vu vt vi vj vk vh vm_16))))))))) : Z E 4 72 4457 (w_law G a ab vg vs vp vy ve vc vu vt vi vj vk vh vm) [(0, .ref (sb)), (1, .ref (a 0)), (2, .ref (ab 0)), (3, .int x3)] 283 [] := by
  refine z_aload_n F dL_law_283 rfl 1 rfl ?_
  refine z_aload_n F dL_law_284 rfl 0 rfl ?_
  refine z_iload_n F dL_law_285 rfl 3 rfl ?_
  refine z_iconst (v := 1) F dL_law_286 rfl ?_
  refine z_iadd F dL_law_287 ?_
  have h9 := h.1
  have h := h.2
  refine z_sld F X h9 dL_law_288 ?_
  refine z_callVi2 (wr_S2 G a ab vg vs vy ve vc vu vt vi vj vk vh vm) (fun u9 => w_law G a ab vg vs u9 vy ve vc vu vt vi vj vk vh vm) F (mX6_say G a vp (xs ((x3 + (1 : Int32))).toNatClampNeg) _ h) gL_law_X6_say rfl hdX6_say ⟨rfl, rfl, Nat.le_of_ble_eq_true rfl, Nat.le_of_ble_eq_true rfl, Nat.le_of_ble_eq_true rfl, Nat.le_of_ble_eq_true rfl⟩ 0 rfl rfl [0, 17, 18] [1, 2, 3, 4, 5, 6, 7, 8, 9, 10, 11, 12, 13, 14, 15, 16, 19, 20, 21, 22, 23, 24, 25, 26, 27, 28, 29, 30, 31, 32, 33, 34, 35, 36, 37, 38, 39, 40, 41, 42, 43, 44, 45, 46, 47, 48, 49, 50, 51, 52, 53, 54, 55, 56, 57, 58, 59, 60, 61, 62, 63, 64, 65, 66, 67, 68, 69, 70, 71] [69, 0, 1, 2, 3, 4, 5, 6, 7, 8, 9, 10, 11, 12, 13, 14, 15, 70, 71, 16, 17, 18, 19, 20, 21, 22, 23, 24, 25, 26, 27, 28, 29, 30, 31, 32, 33, 34, 35, 36, 37, 38, 39, 40, 41, 42, 43, 44, 45, 46, 47, 48, 49, 50, 51, 52, 53, 54, 55, 56, 57, 58, 59, 60, 61, 62, 63, 64, 65, 66, 67, 68] (lc_S2_C G a ab vg vs vp vy ve vc vu vt vi vj vk vh vm) (lc_S2_R G a ab vg vs vp vy ve vc vu vt vi vj vk vh vm) lc_S2_n (fun u9 => lc_S2_P G a ab vg vs u9 vy ve vc vu vt vi vj vk vh vm) rfl (Nat.le_of_ble_eq_true rfl) dL_law_289 (fun r_13 vp_14 h => ?_)
  refine z_aload_n F dL_law_292 rfl 2 rfl ?_
  refine z_aload_n F dL_law_293 rfl 0 rfl ?_
  refine z_iload_n F dL_law_294 rfl 3 rfl ?_
  refine z_iconst (v := 1) F dL_law_295 rfl ?_
  refine z_iadd F dL_law_296 ?_
  have h9 := h.1
  have h := h.2
  refine z_sld F X h9 dL_law_297 ?_
  refine z_callVi2 (wr_S1 G a ab vg vs vp_14 vy ve vc vu vt vi vj vk vh) (fun u9 => w_law G a ab vg vs vp_14 vy ve vc vu vt vi vj vk vh u9) F (mX7_say G ab vm (xs ((x3 + (1 : Int32))).toNatClampNeg) _ h) gL_law_X7_say rfl hdX7_say ⟨rfl, rfl, Nat.le_of_ble_eq_true rfl, Nat.le_of_ble_eq_true rfl, Nat.le_of_ble_eq_true rfl, Nat.le_of_ble_eq_true rfl⟩ 55 rfl rfl [55, 56, 57, 58, 59, 60, 61, 62, 63, 64, 65, 66, 67, 68, 69, 70, 71] [0, 1, 2, 3, 4, 5, 6, 7, 8, 9, 10, 11, 12, 13, 14, 15, 16, 17, 18, 19, 20, 21, 22, 23, 24, 25, 26, 27, 28, 29, 30, 31, 32, 33, 34, 35, 36, 37, 38, 39, 40, 41, 42, 43, 44, 45, 46, 47, 48, 49, 50, 51, 52, 53, 54] [0, 1, 2, 3, 4, 5, 6, 7, 8, 9, 10, 11, 12, 13, 14, 15, 16, 17, 18, 19, 20, 21, 22, 23, 24, 25, 26, 27, 28, 29, 30, 31, 32, 33, 34, 35, 36, 37, 38, 39, 40, 41, 42, 43, 44, 45, 46, 47, 48, 49, 50, 51, 52, 53, 54, 55, 56, 57, 58, 59, 60, 61, 62, 63, 64, 65, 66, 67, 68, 69, 70, 71] (lc_S1_C G a ab vg vs vp_14 vy ve vc vu vt vi vj vk vh vm) (lc_S1_R G a ab vg vs vp_14 vy ve vc vu vt vi vj vk vh vm) lc_S1_n (fun u9 => lc_S1_P G a ab vg vs vp_14 vy ve vc vu vt vi vj vk vh u9) rfl (Nat.le_of_ble_eq_true rfl) dL_law_298 (fun r_15 vm_16 h => ?_)
  refine z_icmp_eq 1044 F dL_law_301 (by decide) (fun c9 => ?_) (fun c9 => ?_)
  · have h := h.1 c9
    exact z_lv [0, 1, 2, 3] rfl (hJ vg vs vp_14 vy ve vc vu vt vi vj vk vh vm_16 x3 h)
  · have h := h.2 c9
    refine z_iconst (v := 0) F dL_law_304 rfl ?_
    exact hret (0 : Int32) (vg, vs, vp_14, vy, ve, vc, vu, vt, vi, vj, vk, vh, vm_16) _ _ h dL_law_305
set_option maxRecDepth 100000 in
set_option maxHeartbeats 4000000 in
theorem mL_c4 (G : ZG) (a : Nat → Nat) (ab : Nat → Nat) (sb L : Nat) (xs : Nat → Int32) (E : ZE) (F : ZF E 4 cL_law RL wsL_law room_1 G) (X : ZX E sb L xs) (Q : Int32 → Gr → Gr → Pd → Dy → Gr → Co → Gu → Gm → Gr → Gr → Kp → Ec → Mo → Prop) (hret : ∀ (v : Int32) (u9 : Gr × Gr × Pd × Dy × Gr × Co × Gu × Gm × Gr × Gr × Kp × Ec × Mo) (lv : List (Nat × Value)) (pc : Nat), Q v u9.1 u9.2.1 u9.2.2.1 u9.2.2.2.1 u9.2.2.2.2.1 u9.2.2.2.2.2.1 u9.2.2.2.2.2.2.1 u9.2.2.2.2.2.2.2.1 u9.2.2.2.2.2.2.2.2.1 u9.2.2.2.2.2.2.2.2.2.1 u9.2.2.2.2.2.2.2.2.2.2.1 u9.2.2.2.2.2.2.2.2.2.2.2.1 u9.2.2.2.2.2.2.2.2.2.2.2.2 → decode cL_law pc = .ok (.ireturn, 1) → Z E 4 72 4457 (w_law G a ab u9.1 u9.2.1 u9.2.2.1 u9.2.2.2.1 u9.2.2.2.2.1 u9.2.2.2.2.2.1 u9.2.2.2.2.2.2.1 u9.2.2.2.2.2.2.2.1 u9.2.2.2.2.2.2.2.2.1 u9.2.2.2.2.2.2.2.2.2.1 u9.2.2.2.2.2.2.2.2.2.2.1 u9.2.2.2.2.2.2.2.2.2.2.2.1 u9.2.2.2.2.2.2.2.2.2.2.2.2) lv pc [.int v]) (K18 : Gr → Gr → Pd → Dy → Gr → Co → Gu → Gm → Gr → Gr → Kp → Ec → Mo → Int32 → Prop) (hJ : ∀ (vg : Gr) (vs : Gr) (vp : Pd) (vy : Dy) (ve : Gr) (vc : Co) (vu : Gu) (vt : Gm) (vi : Gr) (vj : Gr) (vk : Kp) (vh : Ec) (vm : Mo) (x3 : Int32), wpL_law_B1044 xs L Q K18 vg vs vp vy ve vc vu vt vi vj vk vh vm x3 → Z E 4 72 4457 (w_law G a ab vg vs vp vy ve vc vu vt vi vj vk vh vm) [(0, .ref (sb)), (1, .ref (a 0)), (2, .ref (ab 0)), (3, .int x3)] 1044 []) (vg : Gr) (vs : Gr) (vp : Pd) (vy : Dy) (ve : Gr) (vc : Co) (vu : Gu) (vt : Gm) (vi : Gr) (vj : Gr) (vk : Kp) (vh : Ec) (vm : Mo) (x3 : Int32) (h : (wpX6_wipe vp (fun r_17 vp_18 => (wpX7_wipe vm (fun r_19 vm_20 => ((r_17 = r_19 → wpL_law_B1044 xs L Q K18 vg vs vp_18 vy ve vc vu vt vi vj vk vh vm_20 x3) ∧ (¬ r_17 = r_19 → Q (0 : Int32) vg vs vp_18 vy ve vc vu vt vi vj vk vh vm_20))))))) : Z E 4 72 4457 (w_law G a ab vg vs vp vy ve vc vu vt vi vj vk vh vm) [(0, .ref (sb)), (1, .ref (a 0)), (2, .ref (ab 0)), (3, .int x3)] 306 [] := by
  refine z_aload_n F dL_law_306 rfl 1 rfl ?_
  refine z_callVi2 (wr_S2 G a ab vg vs vy ve vc vu vt vi vj vk vh vm) (fun u9 => w_law G a ab vg vs u9 vy ve vc vu vt vi vj vk vh vm) F (mX6_wipe G a vp _ h) gL_law_X6_wipe rfl hdX6_wipe ⟨rfl, rfl, Nat.le_of_ble_eq_true rfl, Nat.le_of_ble_eq_true rfl, Nat.le_of_ble_eq_true rfl, Nat.le_of_ble_eq_true rfl⟩ 0 rfl rfl [0, 17, 18] [1, 2, 3, 4, 5, 6, 7, 8, 9, 10, 11, 12, 13, 14, 15, 16, 19, 20, 21, 22, 23, 24, 25, 26, 27, 28, 29, 30, 31, 32, 33, 34, 35, 36, 37, 38, 39, 40, 41, 42, 43, 44, 45, 46, 47, 48, 49, 50, 51, 52, 53, 54, 55, 56, 57, 58, 59, 60, 61, 62, 63, 64, 65, 66, 67, 68, 69, 70, 71] [69, 0, 1, 2, 3, 4, 5, 6, 7, 8, 9, 10, 11, 12, 13, 14, 15, 70, 71, 16, 17, 18, 19, 20, 21, 22, 23, 24, 25, 26, 27, 28, 29, 30, 31, 32, 33, 34, 35, 36, 37, 38, 39, 40, 41, 42, 43, 44, 45, 46, 47, 48, 49, 50, 51, 52, 53, 54, 55, 56, 57, 58, 59, 60, 61, 62, 63, 64, 65, 66, 67, 68] (lc_S2_C G a ab vg vs vp vy ve vc vu vt vi vj vk vh vm) (lc_S2_R G a ab vg vs vp vy ve vc vu vt vi vj vk vh vm) lc_S2_n (fun u9 => lc_S2_P G a ab vg vs u9 vy ve vc vu vt vi vj vk vh vm) rfl (Nat.le_of_ble_eq_true rfl) dL_law_307 (fun r_17 vp_18 h => ?_)
  refine z_aload_n F dL_law_310 rfl 2 rfl ?_
  refine z_callVi2 (wr_S1 G a ab vg vs vp_18 vy ve vc vu vt vi vj vk vh) (fun u9 => w_law G a ab vg vs vp_18 vy ve vc vu vt vi vj vk vh u9) F (mX7_wipe G ab vm _ h) gL_law_X7_wipe rfl hdX7_wipe ⟨rfl, rfl, Nat.le_of_ble_eq_true rfl, Nat.le_of_ble_eq_true rfl, Nat.le_of_ble_eq_true rfl, Nat.le_of_ble_eq_true rfl⟩ 55 rfl rfl [55, 56, 57, 58, 59, 60, 61, 62, 63, 64, 65, 66, 67, 68, 69, 70, 71] [0, 1, 2, 3, 4, 5, 6, 7, 8, 9, 10, 11, 12, 13, 14, 15, 16, 17, 18, 19, 20, 21, 22, 23, 24, 25, 26, 27, 28, 29, 30, 31, 32, 33, 34, 35, 36, 37, 38, 39, 40, 41, 42, 43, 44, 45, 46, 47, 48, 49, 50, 51, 52, 53, 54] [0, 1, 2, 3, 4, 5, 6, 7, 8, 9, 10, 11, 12, 13, 14, 15, 16, 17, 18, 19, 20, 21, 22, 23, 24, 25, 26, 27, 28, 29, 30, 31, 32, 33, 34, 35, 36, 37, 38, 39, 40, 41, 42, 43, 44, 45, 46, 47, 48, 49, 50, 51, 52, 53, 54, 55, 56, 57, 58, 59, 60, 61, 62, 63, 64, 65, 66, 67, 68, 69, 70, 71] (lc_S1_C G a ab vg vs vp_18 vy ve vc vu vt vi vj vk vh vm) (lc_S1_R G a ab vg vs vp_18 vy ve vc vu vt vi vj vk vh vm) lc_S1_n (fun u9 => lc_S1_P G a ab vg vs vp_18 vy ve vc vu vt vi vj vk vh u9) rfl (Nat.le_of_ble_eq_true rfl) dL_law_311 (fun r_19 vm_20 h => ?_)
  refine z_icmp_eq 1044 F dL_law_314 (by decide) (fun c9 => ?_) (fun c9 => ?_)
  · have h := h.1 c9
    exact z_lv [0, 1, 2, 3] rfl (hJ vg vs vp_18 vy ve vc vu vt vi vj vk vh vm_20 x3 h)
  · have h := h.2 c9
    refine z_iconst (v := 0) F dL_law_317 rfl ?_
    exact hret (0 : Int32) (vg, vs, vp_18, vy, ve, vc, vu, vt, vi, vj, vk, vh, vm_20) _ _ h dL_law_318
