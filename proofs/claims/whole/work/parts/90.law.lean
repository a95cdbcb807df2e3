/-- the law's script: its ints, its place ahead of all that is made -/
def ZX (E : ZE) (b L : Nat) (xs : Nat → Int32) : Prop := match E with
  | (_, _, _, _, s, _, _, _, _, _, _, A, _) => va_X b L xs s s.heap ∧ b < s.heap.size ∧ ¬ A b
section
variable {E : ZE} {N k n : Nat} {w : va_W} {lv : List (Nat × Value)} {pc : Nat} {st : List Value} {cc : ByteArray} {own : String} {Ts : List Cond} {rm : Room} {G : ZG}
theorem z_slen {b L : Nat} {xs : Nat → Int32} (F : ZF E N cc own Ts rm G) (X : ZX E b L xs) (d : decode cc pc = .ok (.arraylength, 1)) (h : Z E N k n w lv (pc + 1) (.int (Int32.ofNat L) :: st)) : Z E N k n w lv pc (.ref b :: st) := by
  obtain ⟨p, l, e, R, s, m, args, below, meth, c, D, A, Q⟩ := E
  obtain ⟨hx, hb, hml, hown, hts, hK, hN, hA, hR, hGl, hGd⟩ := F
  obtain ⟨hX, hbl, hbA⟩ := X
  intro H locs ls hP hD hS hl
  exact va_slen hx hb hX hbl hbA hS d (h H locs ls hP hD hS hl)
theorem z_sld {b L : Nat} {xs : Nat → Int32} {i : Int32} (F : ZF E N cc own Ts rm G) (X : ZX E b L xs) (hi : vp_in i L) (d : decode cc pc = .ok (.iaload, 1)) (h : Z E N k n w lv (pc + 1) (.int (xs i.toNatClampNeg) :: st)) : Z E N k n w lv pc (.int i :: .ref b :: st) := by
  obtain ⟨p, l, e, R, s, m, args, below, meth, c, D, A, Q⟩ := E
  obtain ⟨hx, hb, hml, hown, hts, hK, hN, hA, hR, hGl, hGd⟩ := F
  obtain ⟨hX, hbl, hbA⟩ := X
  intro H locs ls hP hD hS hl
  exact va_sld hx hb hX hbl hbA hS hi d (h H locs ls hP hD hS hl)
end
set_option maxRecDepth 100000 in
set_option maxHeartbeats 8000000 in
theorem mL_law (G : ZG) (a ab : Nat → Nat) (sb L : Nat) (xs : Nat → Int32) (E : ZE) (F : ZF E 4 cL_law RL wsL_law room_1 G) (X : ZX E sb L xs) (Q : Int32 → Gr → Gr → Pd → Dy → Gr → Co → Gu → Gm → Gr → Gr → Kp → Ec → Mo → Prop) (hret : ∀ (v : Int32) (u9 : Gr × Gr × Pd × Dy × Gr × Co × Gu × Gm × Gr × Gr × Kp × Ec × Mo) (lv : List (Nat × Value)) (pc : Nat), Q v u9.1 u9.2.1 u9.2.2.1 u9.2.2.2.1 u9.2.2.2.2.1 u9.2.2.2.2.2.1 u9.2.2.2.2.2.2.1 u9.2.2.2.2.2.2.2.1 u9.2.2.2.2.2.2.2.2.1 u9.2.2.2.2.2.2.2.2.2.1 u9.2.2.2.2.2.2.2.2.2.2.1 u9.2.2.2.2.2.2.2.2.2.2.2.1 u9.2.2.2.2.2.2.2.2.2.2.2.2 → decode cL_law pc = .ok (.ireturn, 1) → Z E 4 72 4457 (w_law G a ab u9.1 u9.2.1 u9.2.2.1 u9.2.2.2.1 u9.2.2.2.2.1 u9.2.2.2.2.2.1 u9.2.2.2.2.2.2.1 u9.2.2.2.2.2.2.2.1 u9.2.2.2.2.2.2.2.2.1 u9.2.2.2.2.2.2.2.2.2.1 u9.2.2.2.2.2.2.2.2.2.2.1 u9.2.2.2.2.2.2.2.2.2.2.2.1 u9.2.2.2.2.2.2.2.2.2.2.2.2) lv pc [.int v]) : ∀ (n : Nat) (vg : Gr) (vs : Gr) (vp : Pd) (vy : Dy) (ve : Gr) (vc : Co) (vu : Gu) (vt : Gm) (vi : Gr) (vj : Gr) (vk : Kp) (vh : Ec) (vm : Mo) (x3 : Int32), wpL_law_L18 xs L Q n vg vs vp vy ve vc vu vt vi vj vk vh vm x3 → Z E 4 72 4457 (w_law G a ab vg vs vp vy ve vc vu vt vi vj vk vh vm) [(0, .ref (sb)), (1, .ref (a 0)), (2, .ref (ab 0)), (3, .int x3)] 18 [] := by
  have t1044 : ∀ (K18 : Gr → Gr → Pd → Dy → Gr → Co → Gu → Gm → Gr → Gr → Kp → Ec → Mo → Int32 → Prop) (ih18 : ∀ (vg : Gr) (vs : Gr) (vp : Pd) (vy : Dy) (ve : Gr) (vc : Co) (vu : Gu) (vt : Gm) (vi : Gr) (vj : Gr) (vk : Kp) (vh : Ec) (vm : Mo) (x3 : Int32), K18 vg vs vp vy ve vc vu vt vi vj vk vh vm x3 → Z E 4 72 4457 (w_law G a ab vg vs vp vy ve vc vu vt vi vj vk vh vm) [(0, .ref (sb)), (1, .ref (a 0)), (2, .ref (ab 0)), (3, .int x3)] 18 []) (vg : Gr) (vs : Gr) (vp : Pd) (vy : Dy) (ve : Gr) (vc : Co) (vu : Gu) (vt : Gm) (vi : Gr) (vj : Gr) (vk : Kp) (vh : Ec) (vm : Mo) (x3 : Int32), wpL_law_B1044 xs L Q K18 vg vs vp vy ve vc vu vt vi vj vk vh vm x3 → Z E 4 72 4457 (w_law G a ab vg vs vp vy ve vc vu vt vi vj vk vh vm) [(0, .ref (sb)), (1, .ref (a 0)), (2, .ref (ab 0)), (3, .int x3)] 1044 [] := by
    intro K18 ih18 vg vs vp vy ve vc vu vt vi vj vk vh vm x3 h
    unfold wpL_law_B1044 at h
    obtain ⟨x3_153, e9⟩ : ∃ z : Int32, z = x3 + 7 := ⟨_, rfl⟩
    have h := h x3_153 e9
    refine z_iinc (v := x3_153) [(3, .int x3_153), (0, .ref (sb)), (1, .ref (a 0)), (2, .ref (ab 0))] F dL_law_1044 3 rfl (by rw [e9]; rfl) (by decide) rfl ?_
    refine z_goto 18 F dL_law_1047 (by decide) ?_
    exact z_lv [1, 2, 3, 0] rfl (ih18 vg vs vp vy ve vc vu vt vi vj vk vh vm x3_153 h)
  intro n
  induction n with
  | zero => intro vg vs vp vy ve vc vu vt vi vj vk vh vm x3 h; exact h.elim
  | succ n ihQ =>
    have ih18 : ∀ (vg : Gr) (vs : Gr) (vp : Pd) (vy : Dy) (ve : Gr) (vc : Co) (vu : Gu) (vt : Gm) (vi : Gr) (vj : Gr) (vk : Kp) (vh : Ec) (vm : Mo) (x3 : Int32), wpL_law_L18 xs L Q n vg vs vp vy ve vc vu vt vi vj vk vh vm x3 → Z E 4 72 4457 (w_law G a ab vg vs vp vy ve vc vu vt vi vj vk vh vm) [(0, .ref (sb)), (1, .ref (a 0)), (2, .ref (ab 0)), (3, .int x3)] 18 [] := ihQ
    intro vg vs vp vy ve vc vu vt vi vj vk vh vm x3 h
    have h : wpL_law_H18 xs L Q (wpL_law_L18 xs L Q n) vg vs vp vy ve vc vu vt vi vj vk vh vm x3 := h
    generalize wpL_law_L18 xs L Q n = K18 at h ih18
    clear ihQ
    unfold wpL_law_H18 at h
    refine z_iload_n F dL_law_18 rfl 3 rfl ?_
    refine z_aload_n F dL_law_19 rfl 0 rfl ?_
    refine z_slen F X dL_law_20 ?_
    refine z_bipush (v := 7) F dL_law_21 rfl ?_
    refine z_isub F dL_law_23 ?_
    refine z_icmp_gt 1050 F dL_law_24 (by decide) (fun c9 => ?_) (fun c9 => ?_)
    · have h := h.1 c9
      refine z_iconst (v := 1) F dL_law_1050 rfl ?_
      exact hret (1 : Int32) (vg, vs, vp, vy, ve, vc, vu, vt, vi, vj, vk, vh, vm) _ _ h dL_law_1051
    · have h := h.2 c9
      refine z_aload_n F dL_law_27 rfl 0 rfl ?_
      refine z_iload_n F dL_law_28 rfl 3 rfl ?_
      have h9 := h.1
      have h := h.2
      refine z_sld F X h9 dL_law_29 ?_
      refine z_bipush (v := 31) F dL_law_30 rfl ?_
      refine z_iand F dL_law_32 ?_
      by_cases c0 : ((xs (x3).toNatClampNeg) &&& (31 : Int32)) = 0
      · have h := h.1 c0
        refine z_tableIn (off := 131) 164 F dL_law_33 (by rw [c0] <;> decide) (by rw [c0] <;> decide) (by rw [c0] <;> decide) (by decide) ?_
        refine z_aload_n F dL_law_164 rfl 1 rfl ?_
        refine z_aload_n F dL_law_165 rfl 0 rfl ?_
        refine z_iload_n F dL_law_166 rfl 3 rfl ?_
        refine z_iconst (v := 1) F dL_law_167 rfl ?_
        refine z_iadd F dL_law_168 ?_
        have h9 := h.1
        have h := h.2
        refine z_sld F X h9 dL_law_169 ?_
        refine z_aload_n F dL_law_170 rfl 0 rfl ?_
        refine z_iload_n F dL_law_171 rfl 3 rfl ?_
        refine z_iconst (v := 2) F dL_law_172 rfl ?_
        refine z_iadd F dL_law_173 ?_
        have h9 := h.1
        have h := h.2
        refine z_sld F X h9 dL_law_174 ?_
        refine z_aload_n F dL_law_175 rfl 0 rfl ?_
        refine z_iload_n F dL_law_176 rfl 3 rfl ?_
        refine z_iconst (v := 3) F dL_law_177 rfl ?_
        refine z_iadd F dL_law_178 ?_
        have h9 := h.1
        have h := h.2
        refine z_sld F X h9 dL_law_179 ?_
        refine z_callVi (fun u9 => w_law G a ab u9 vs vp vy ve vc vu vt vi vj vk vh vm) F (mX6_wall G a vg (xs ((x3 + (1 : Int32))).toNatClampNeg) (xs ((x3 + (2 : Int32))).toNatClampNeg) (xs ((x3 + (3 : Int32))).toNatClampNeg) _ h) gL_law_X6_wall rfl hdX6_wall ⟨rfl, rfl, Nat.le_of_ble_eq_true rfl, Nat.le_of_ble_eq_true rfl, Nat.le_of_ble_eq_true rfl, Nat.le_of_ble_eq_true rfl⟩ 0 rfl rfl [0, 1, 2, 3, 4, 5, 6, 7, 8] [9, 10, 11, 12, 13, 14, 15, 16, 17, 18, 19, 20, 21, 22, 23, 24, 25, 26, 27, 28, 29, 30, 31, 32, 33, 34, 35, 36, 37, 38, 39, 40, 41, 42, 43, 44, 45, 46, 47, 48, 49, 50, 51, 52, 53, 54, 55, 56, 57, 58, 59, 60, 61, 62, 63, 64, 65, 66, 67, 68, 69, 70, 71] [63, 64, 65, 66, 67, 68, 69, 70, 71, 0, 1, 2, 3, 4, 5, 6, 7, 8, 9, 10, 11, 12, 13, 14, 15, 16, 17, 18, 19, 20, 21, 22, 23, 24, 25, 26, 27, 28, 29, 30, 31, 32, 33, 34, 35, 36, 37, 38, 39, 40, 41, 42, 43, 44, 45, 46, 47, 48, 49, 50, 51, 52, 53, 54, 55, 56, 57, 58, 59, 60, 61, 62] rfl rfl (by decide) (fun _ => rfl) rfl (Nat.le_of_ble_eq_true rfl) dL_law_180 (fun r_1 vg_2 h => ?_)
        refine z_aload_n F dL_law_183 rfl 2 rfl ?_
        refine z_aload_n F dL_law_184 rfl 0 rfl ?_
        refine z_iload_n F dL_law_185 rfl 3 rfl ?_
        refine z_iconst (v := 1) F dL_law_186 rfl ?_
        refine z_iadd F dL_law_187 ?_
        have h9 := h.1
        have h := h.2
        refine z_sld F X h9 dL_law_188 ?_
        refine z_aload_n F dL_law_189 rfl 0 rfl ?_
        refine z_iload_n F dL_law_190 rfl 3 rfl ?_
        refine z_iconst (v := 2) F dL_law_191 rfl ?_
        refine z_iadd F dL_law_192 ?_
        have h9 := h.1
        have h := h.2
        refine z_sld F X h9 dL_law_193 ?_
        refine z_aload_n F dL_law_194 rfl 0 rfl ?_
        refine z_iload_n F dL_law_195 rfl 3 rfl ?_
        refine z_iconst (v := 3) F dL_law_196 rfl ?_
        refine z_iadd F dL_law_197 ?_
        have h9 := h.1
        have h := h.2
        refine z_sld F X h9 dL_law_198 ?_
        refine z_callVi (fun u9 => w_law G a ab vg_2 vs vp vy ve vc vu vt vi vj vk vh u9) F (mX7_wall G ab vm (xs ((x3 + (1 : Int32))).toNatClampNeg) (xs ((x3 + (2 : Int32))).toNatClampNeg) (xs ((x3 + (3 : Int32))).toNatClampNeg) _ h) gL_law_X7_wall rfl hdX7_wall ⟨rfl, rfl, Nat.le_of_ble_eq_true rfl, Nat.le_of_ble_eq_true rfl, Nat.le_of_ble_eq_true rfl, Nat.le_of_ble_eq_true rfl⟩ 55 rfl rfl [55, 56, 57, 58, 59, 60, 61, 62, 63, 64, 65, 66, 67, 68, 69, 70, 71] [0, 1, 2, 3, 4, 5, 6, 7, 8, 9, 10, 11, 12, 13, 14, 15, 16, 17, 18, 19, 20, 21, 22, 23, 24, 25, 26, 27, 28, 29, 30, 31, 32, 33, 34, 35, 36, 37, 38, 39, 40, 41, 42, 43, 44, 45, 46, 47, 48, 49, 50, 51, 52, 53, 54] [0, 1, 2, 3, 4, 5, 6, 7, 8, 9, 10, 11, 12, 13, 14, 15, 16, 17, 18, 19, 20, 21, 22, 23, 24, 25, 26, 27, 28, 29, 30, 31, 32, 33, 34, 35, 36, 37, 38, 39, 40, 41, 42, 43, 44, 45, 46, 47, 48, 49, 50, 51, 52, 53, 54, 55, 56, 57, 58, 59, 60, 61, 62, 63, 64, 65, 66, 67, 68, 69, 70, 71] rfl rfl (by decide) (fun _ => rfl) rfl (Nat.le_of_ble_eq_true rfl) dL_law_199 (fun r_3 vm_4 h => ?_)
        refine z_icmp_eq 1044 F dL_law_202 (by decide) (fun c9 => ?_) (fun c9 => ?_)
        · have h := h.1 c9
          exact z_lv [0, 1, 2, 3] rfl (t1044 K18 ih18 vg_2 vs vp vy ve vc vu vt vi vj vk vh vm_4 x3 h)
        · have h := h.2 c9
          refine z_iconst (v := 0) F dL_law_205 rfl ?_
          exact hret (0 : Int32) (vg_2, vs, vp, vy, ve, vc, vu, vt, vi, vj, vk, vh, vm_4) _ _ h dL_law_206
      have h := h.2 c0
      by_cases c1 : ((xs (x3).toNatClampNeg) &&& (31 : Int32)) = 1
      · have h := h.1 c1
        refine z_tableIn (off := 174) 207 F dL_law_33 (by rw [c1] <;> decide) (by rw [c1] <;> decide) (by rw [c1] <;> decide) (by decide) ?_
        refine z_aload_n F dL_law_207 rfl 1 rfl ?_
        refine z_aload_n F dL_law_208 rfl 0 rfl ?_
        refine z_iload_n F dL_law_209 rfl 3 rfl ?_
        refine z_iconst (v := 1) F dL_law_210 rfl ?_
        refine z_iadd F dL_law_211 ?_
        have h9 := h.1
        have h := h.2
        refine z_sld F X h9 dL_law_212 ?_
        refine z_aload_n F dL_law_213 rfl 0 rfl ?_
        refine z_iload_n F dL_law_214 rfl 3 rfl ?_
        refine z_iconst (v := 2) F dL_law_215 rfl ?_
        refine z_iadd F dL_law_216 ?_
        have h9 := h.1
        have h := h.2
        refine z_sld F X h9 dL_law_217 ?_
        refine z_aload_n F dL_law_218 rfl 0 rfl ?_
        refine z_iload_n F dL_law_219 rfl 3 rfl ?_
        refine z_iconst (v := 3) F dL_law_220 rfl ?_
        refine z_iadd F dL_law_221 ?_
        have h9 := h.1
        have h := h.2
        refine z_sld F X h9 dL_law_222 ?_
        refine z_aload_n F dL_law_223 rfl 0 rfl ?_
        refine z_iload_n F dL_law_224 rfl 3 rfl ?_
        refine z_iconst (v := 4) F dL_law_225 rfl ?_
        refine z_iadd F dL_law_226 ?_
        have h9 := h.1
        have h := h.2
        refine z_sld F X h9 dL_law_227 ?_
        refine z_callVi (fun u9 => w_law G a ab u9 vs vp vy ve vc vu vt vi vj vk vh vm) F (mX6_dress G a vg (xs ((x3 + (1 : Int32))).toNatClampNeg) (xs ((x3 + (2 : Int32))).toNatClampNeg) (xs ((x3 + (3 : Int32))).toNatClampNeg) (xs ((x3 + (4 : Int32))).toNatClampNeg) _ h) gL_law_X6_dress rfl hdX6_dress ⟨rfl, rfl, Nat.le_of_ble_eq_true rfl, Nat.le_of_ble_eq_true rfl, Nat.le_of_ble_eq_true rfl, Nat.le_of_ble_eq_true rfl⟩ 0 rfl rfl [0, 1, 2, 3, 4, 5, 6, 7, 8] [9, 10, 11, 12, 13, 14, 15, 16, 17, 18, 19, 20, 21, 22, 23, 24, 25, 26, 27, 28, 29, 30, 31, 32, 33, 34, 35, 36, 37, 38, 39, 40, 41, 42, 43, 44, 45, 46, 47, 48, 49, 50, 51, 52, 53, 54, 55, 56, 57, 58, 59, 60, 61, 62, 63, 64, 65, 66, 67, 68, 69, 70, 71] [63, 64, 65, 66, 67, 68, 69, 70, 71, 0, 1, 2, 3, 4, 5, 6, 7, 8, 9, 10, 11, 12, 13, 14, 15, 16, 17, 18, 19, 20, 21, 22, 23, 24, 25, 26, 27, 28, 29, 30, 31, 32, 33, 34, 35, 36, 37, 38, 39, 40, 41, 42, 43, 44, 45, 46, 47, 48, 49, 50, 51, 52, 53, 54, 55, 56, 57, 58, 59, 60, 61, 62] rfl rfl (by decide) (fun _ => rfl) rfl (Nat.le_of_ble_eq_true rfl) dL_law_228 (fun r_5 vg_6 h => ?_)
        refine z_aload_n F dL_law_231 rfl 2 rfl ?_
        refine z_aload_n F dL_law_232 rfl 0 rfl ?_
        refine z_iload_n F dL_law_233 rfl 3 rfl ?_
        refine z_iconst (v := 1) F dL_law_234 rfl ?_
        refine z_iadd F dL_law_235 ?_
        have h9 := h.1
        have h := h.2
        refine z_sld F X h9 dL_law_236 ?_
        refine z_aload_n F dL_law_237 rfl 0 rfl ?_
        refine z_iload_n F dL_law_238 rfl 3 rfl ?_
        refine z_iconst (v := 2) F dL_law_239 rfl ?_
        refine z_iadd F dL_law_240 ?_
        have h9 := h.1
        have h := h.2
        refine z_sld F X h9 dL_law_241 ?_
        refine z_aload_n F dL_law_242 rfl 0 rfl ?_
        refine z_iload_n F dL_law_243 rfl 3 rfl ?_
        refine z_iconst (v := 3) F dL_law_244 rfl ?_
        refine z_iadd F dL_law_245 ?_
        have h9 := h.1
        have h := h.2
        refine z_sld F X h9 dL_law_246 ?_
        refine z_aload_n F dL_law_247 rfl 0 rfl ?_
        refine z_iload_n F dL_law_248 rfl 3 rfl ?_
        refine z_iconst (v := 4) F dL_law_249 rfl ?_
        refine z_iadd F dL_law_250 ?_
        have h9 := h.1
        have h := h.2
        refine z_sld F X h9 dL_law_251 ?_
        refine z_callVi (fun u9 => w_law G a ab vg_6 vs vp vy ve vc vu vt vi vj vk vh u9) F (mX7_dress G ab vm (xs ((x3 + (1 : Int32))).toNatClampNeg) (xs ((x3 + (2 : Int32))).toNatClampNeg) (xs ((x3 + (3 : Int32))).toNatClampNeg) (xs ((x3 + (4 : Int32))).toNatClampNeg) _ h) gL_law_X7_dress rfl hdX7_dress ⟨rfl, rfl, Nat.le_of_ble_eq_true rfl, Nat.le_of_ble_eq_true rfl, Nat.le_of_ble_eq_true rfl, Nat.le_of_ble_eq_true rfl⟩ 55 rfl rfl [55, 56, 57, 58, 59, 60, 61, 62, 63, 64, 65, 66, 67, 68, 69, 70, 71] [0, 1, 2, 3, 4, 5, 6, 7, 8, 9, 10, 11, 12, 13, 14, 15, 16, 17, 18, 19, 20, 21, 22, 23, 24, 25, 26, 27, 28, 29, 30, 31, 32, 33, 34, 35, 36, 37, 38, 39, 40, 41, 42, 43, 44, 45, 46, 47, 48, 49, 50, 51, 52, 53, 54] [0, 1, 2, 3, 4, 5, 6, 7, 8, 9, 10, 11, 12, 13, 14, 15, 16, 17, 18, 19, 20, 21, 22, 23, 24, 25, 26, 27, 28, 29, 30, 31, 32, 33, 34, 35, 36, 37, 38, 39, 40, 41, 42, 43, 44, 45, 46, 47, 48, 49, 50, 51, 52, 53, 54, 55, 56, 57, 58, 59, 60, 61, 62, 63, 64, 65, 66, 67, 68, 69, 70, 71] rfl rfl (by decide) (fun _ => rfl) rfl (Nat.le_of_ble_eq_true rfl) dL_law_252 (fun r_7 vm_8 h => ?_)
        refine z_icmp_eq 1044 F dL_law_255 (by decide) (fun c9 => ?_) (fun c9 => ?_)
        · have h := h.1 c9
          exact z_lv [0, 1, 2, 3] rfl (t1044 K18 ih18 vg_6 vs vp vy ve vc vu vt vi vj vk vh vm_8 x3 h)
        · have h := h.2 c9
          refine z_iconst (v := 0) F dL_law_258 rfl ?_
          exact hret (0 : Int32) (vg_6, vs, vp, vy, ve, vc, vu, vt, vi, vj, vk, vh, vm_8) _ _ h dL_law_259
      have h := h.2 c1
      by_cases c2 : ((xs (x3).toNatClampNeg) &&& (31 : Int32)) = 2
      · have h := h.1 c2
        refine z_tableIn (off := 227) 260 F dL_law_33 (by rw [c2] <;> decide) (by rw [c2] <;> decide) (by rw [c2] <;> decide) (by decide) ?_
        refine z_aload_n F dL_law_260 rfl 1 rfl ?_
        refine z_aload_n F dL_law_261 rfl 0 rfl ?_
        refine z_iload_n F dL_law_262 rfl 3 rfl ?_
        refine z_iconst (v := 1) F dL_law_263 rfl ?_
        refine z_iadd F dL_law_264 ?_
        have h9 := h.1
        have h := h.2
        refine z_sld F X h9 dL_law_265 ?_
        refine z_callVi (fun u9 => w_law G a ab u9 vs vp vy ve vc vu vt vi vj vk vh vm) F (mX6_limit G a vg (xs ((x3 + (1 : Int32))).toNatClampNeg) _ h) gL_law_X6_limit rfl hdX6_limit ⟨rfl, rfl, Nat.le_of_ble_eq_true rfl, Nat.le_of_ble_eq_true rfl, Nat.le_of_ble_eq_true rfl, Nat.le_of_ble_eq_true rfl⟩ 0 rfl rfl [0, 1, 2, 3, 4, 5, 6, 7, 8] [9, 10, 11, 12, 13, 14, 15, 16, 17, 18, 19, 20, 21, 22, 23, 24, 25, 26, 27, 28, 29, 30, 31, 32, 33, 34, 35, 36, 37, 38, 39, 40, 41, 42, 43, 44, 45, 46, 47, 48, 49, 50, 51, 52, 53, 54, 55, 56, 57, 58, 59, 60, 61, 62, 63, 64, 65, 66, 67, 68, 69, 70, 71] [63, 64, 65, 66, 67, 68, 69, 70, 71, 0, 1, 2, 3, 4, 5, 6, 7, 8, 9, 10, 11, 12, 13, 14, 15, 16, 17, 18, 19, 20, 21, 22, 23, 24, 25, 26, 27, 28, 29, 30, 31, 32, 33, 34, 35, 36, 37, 38, 39, 40, 41, 42, 43, 44, 45, 46, 47, 48, 49, 50, 51, 52, 53, 54, 55, 56, 57, 58, 59, 60, 61, 62] rfl rfl (by decide) (fun _ => rfl) rfl (Nat.le_of_ble_eq_true rfl) dL_law_266 (fun r_9 vg_10 h => ?_)
        refine z_aload_n F dL_law_269 rfl 2 rfl ?_
        refine z_aload_n F dL_law_270 rfl 0 rfl ?_
        refine z_iload_n F dL_law_271 rfl 3 rfl ?_
        refine z_iconst (v := 1) F dL_law_272 rfl ?_
        refine z_iadd F dL_law_273 ?_
        have h9 := h.1
        have h := h.2
        refine z_sld F X h9 dL_law_274 ?_
        refine z_callVi (fun u9 => w_law G a ab vg_10 vs vp vy ve vc vu vt vi vj vk vh u9) F (mX7_limit G ab vm (xs ((x3 + (1 : Int32))).toNatClampNeg) _ h) gL_law_X7_limit rfl hdX7_limit ⟨rfl, rfl, Nat.le_of_ble_eq_true rfl, Nat.le_of_ble_eq_true rfl, Nat.le_of_ble_eq_true rfl, Nat.le_of_ble_eq_true rfl⟩ 55 rfl rfl [55, 56, 57, 58, 59, 60, 61, 62, 63, 64, 65, 66, 67, 68, 69, 70, 71] [0, 1, 2, 3, 4, 5, 6, 7, 8, 9, 10, 11, 12, 13, 14, 15, 16, 17, 18, 19, 20, 21, 22, 23, 24, 25, 26, 27, 28, 29, 30, 31, 32, 33, 34, 35, 36, 37, 38, 39, 40, 41, 42, 43, 44, 45, 46, 47, 48, 49, 50, 51, 52, 53, 54] [0, 1, 2, 3, 4, 5, 6, 7, 8, 9, 10, 11, 12, 13, 14, 15, 16, 17, 18, 19, 20, 21, 22, 23, 24, 25, 26, 27, 28, 29, 30, 31, 32, 33, 34, 35, 36, 37, 38, 39, 40, 41, 42, 43, 44, 45, 46, 47, 48, 49, 50, 51, 52, 53, 54, 55, 56, 57, 58, 59, 60, 61, 62, 63, 64, 65, 66, 67, 68, 69, 70, 71] rfl rfl (by decide) (fun _ => rfl) rfl (Nat.le_of_ble_eq_true rfl) dL_law_275 (fun r_11 vm_12 h => ?_)
        refine z_icmp_eq 1044 F dL_law_278 (by decide) (fun c9 => ?_) (fun c9 => ?_)
        · have h := h.1 c9
          exact z_lv [0, 1, 2, 3] rfl (t1044 K18 ih18 vg_10 vs vp vy ve vc vu vt vi vj vk vh vm_12 x3 h)
        · have h := h.2 c9
          refine z_iconst (v := 0) F dL_law_281 rfl ?_
          exact hret (0 : Int32) (vg_10, vs, vp, vy, ve, vc, vu, vt, vi, vj, vk, vh, vm_12) _ _ h dL_law_282
      have h := h.2 c2
      by_cases c3 : ((xs (x3).toNatClampNeg) &&& (31 : Int32)) = 3
      · have h := h.1 c3
        refine z_tableIn (off := 250) 283 F dL_law_33 (by rw [c3] <;> decide) (by rw [c3] <;> decide) (by rw [c3] <;> decide) (by decide) ?_
        refine z_aload_n F dL_law_283 rfl 1 rfl ?_
        refine z_aload_n F dL_law_284 rfl 0 rfl ?_
        refine z_iload_n F dL_law_285 rfl 3 rfl ?_
        refine z_iconst (v := 1) F dL_law_286 rfl ?_
        refine z_iadd F dL_law_287 ?_
        have h9 := h.1
        have h := h.2
        refine z_sld F X h9 dL_law_288 ?_
        refine z_callVi (fun u9 => w_law G a ab vg vs u9 vy ve vc vu vt vi vj vk vh vm) F (mX6_say G a vp (xs ((x3 + (1 : Int32))).toNatClampNeg) _ h) gL_law_X6_say rfl hdX6_say ⟨rfl, rfl, Nat.le_of_ble_eq_true rfl, Nat.le_of_ble_eq_true rfl, Nat.le_of_ble_eq_true rfl, Nat.le_of_ble_eq_true rfl⟩ 0 rfl rfl [0, 17, 18] [1, 2, 3, 4, 5, 6, 7, 8, 9, 10, 11, 12, 13, 14, 15, 16, 19, 20, 21, 22, 23, 24, 25, 26, 27, 28, 29, 30, 31, 32, 33, 34, 35, 36, 37, 38, 39, 40, 41, 42, 43, 44, 45, 46, 47, 48, 49, 50, 51, 52, 53, 54, 55, 56, 57, 58, 59, 60, 61, 62, 63, 64, 65, 66, 67, 68, 69, 70, 71] [69, 0, 1, 2, 3, 4, 5, 6, 7, 8, 9, 10, 11, 12, 13, 14, 15, 70, 71, 16, 17, 18, 19, 20, 21, 22, 23, 24, 25, 26, 27, 28, 29, 30, 31, 32, 33, 34, 35, 36, 37, 38, 39, 40, 41, 42, 43, 44, 45, 46, 47, 48, 49, 50, 51, 52, 53, 54, 55, 56, 57, 58, 59, 60, 61, 62, 63, 64, 65, 66, 67, 68] rfl rfl (by decide) (fun _ => rfl) rfl (Nat.le_of_ble_eq_true rfl) dL_law_289 (fun r_13 vp_14 h => ?_)
        refine z_aload_n F dL_law_292 rfl 2 rfl ?_
        refine z_aload_n F dL_law_293 rfl 0 rfl ?_
        refine z_iload_n F dL_law_294 rfl 3 rfl ?_
        refine z_iconst (v := 1) F dL_law_295 rfl ?_
        refine z_iadd F dL_law_296 ?_
        have h9 := h.1
        have h := h.2
        refine z_sld F X h9 dL_law_297 ?_
        refine z_callVi (fun u9 => w_law G a ab vg vs vp_14 vy ve vc vu vt vi vj vk vh u9) F (mX7_say G ab vm (xs ((x3 + (1 : Int32))).toNatClampNeg) _ h) gL_law_X7_say rfl hdX7_say ⟨rfl, rfl, Nat.le_of_ble_eq_true rfl, Nat.le_of_ble_eq_true rfl, Nat.le_of_ble_eq_true rfl, Nat.le_of_ble_eq_true rfl⟩ 55 rfl rfl [55, 56, 57, 58, 59, 60, 61, 62, 63, 64, 65, 66, 67, 68, 69, 70, 71] [0, 1, 2, 3, 4, 5, 6, 7, 8, 9, 10, 11, 12, 13, 14, 15, 16, 17, 18, 19, 20, 21, 22, 23, 24, 25, 26, 27, 28, 29, 30, 31, 32, 33, 34, 35, 36, 37, 38, 39, 40, 41, 42, 43, 44, 45, 46, 47, 48, 49, 50, 51, 52, 53, 54] [0, 1, 2, 3, 4, 5, 6, 7, 8, 9, 10, 11, 12, 13, 14, 15, 16, 17, 18, 19, 20, 21, 22, 23, 24, 25, 26, 27, 28, 29, 30, 31, 32, 33, 34, 35, 36, 37, 38, 39, 40, 41, 42, 43, 44, 45, 46, 47, 48, 49, 50, 51, 52, 53, 54, 55, 56, 57, 58, 59, 60, 61, 62, 63, 64, 65, 66, 67, 68, 69, 70, 71] rfl rfl (by decide) (fun _ => rfl) rfl (Nat.le_of_ble_eq_true rfl) dL_law_298 (fun r_15 vm_16 h => ?_)
        refine z_icmp_eq 1044 F dL_law_301 (by decide) (fun c9 => ?_) (fun c9 => ?_)
        · have h := h.1 c9
          exact z_lv [0, 1, 2, 3] rfl (t1044 K18 ih18 vg vs vp_14 vy ve vc vu vt vi vj vk vh vm_16 x3 h)
        · have h := h.2 c9
          refine z_iconst (v := 0) F dL_law_304 rfl ?_
          exact hret (0 : Int32) (vg, vs, vp_14, vy, ve, vc, vu, vt, vi, vj, vk, vh, vm_16) _ _ h dL_law_305
      have h := h.2 c3
      by_cases c4 : ((xs (x3).toNatClampNeg) &&& (31 : Int32)) = 4
      · have h := h.1 c4
        refine z_tableIn (off := 273) 306 F dL_law_33 (by rw [c4] <;> decide) (by rw [c4] <;> decide) (by rw [c4] <;> decide) (by decide) ?_
        refine z_aload_n F dL_law_306 rfl 1 rfl ?_
        refine z_callVi (fun u9 => w_law G a ab vg vs u9 vy ve vc vu vt vi vj vk vh vm) F (mX6_wipe G a vp _ h) gL_law_X6_wipe rfl hdX6_wipe ⟨rfl, rfl, Nat.le_of_ble_eq_true rfl, Nat.le_of_ble_eq_true rfl, Nat.le_of_ble_eq_true rfl, Nat.le_of_ble_eq_true rfl⟩ 0 rfl rfl [0, 17, 18] [1, 2, 3, 4, 5, 6, 7, 8, 9, 10, 11, 12, 13, 14, 15, 16, 19, 20, 21, 22, 23, 24, 25, 26, 27, 28, 29, 30, 31, 32, 33, 34, 35, 36, 37, 38, 39, 40, 41, 42, 43, 44, 45, 46, 47, 48, 49, 50, 51, 52, 53, 54, 55, 56, 57, 58, 59, 60, 61, 62, 63, 64, 65, 66, 67, 68, 69, 70, 71] [69, 0, 1, 2, 3, 4, 5, 6, 7, 8, 9, 10, 11, 12, 13, 14, 15, 70, 71, 16, 17, 18, 19, 20, 21, 22, 23, 24, 25, 26, 27, 28, 29, 30, 31, 32, 33, 34, 35, 36, 37, 38, 39, 40, 41, 42, 43, 44, 45, 46, 47, 48, 49, 50, 51, 52, 53, 54, 55, 56, 57, 58, 59, 60, 61, 62, 63, 64, 65, 66, 67, 68] rfl rfl (by decide) (fun _ => rfl) rfl (Nat.le_of_ble_eq_true rfl) dL_law_307 (fun r_17 vp_18 h => ?_)
        refine z_aload_n F dL_law_310 rfl 2 rfl ?_
        refine z_callVi (fun u9 => w_law G a ab vg vs vp_18 vy ve vc vu vt vi vj vk vh u9) F (mX7_wipe G ab vm _ h) gL_law_X7_wipe rfl hdX7_wipe ⟨rfl, rfl, Nat.le_of_ble_eq_true rfl, Nat.le_of_ble_eq_true rfl, Nat.le_of_ble_eq_true rfl, Nat.le_of_ble_eq_true rfl⟩ 55 rfl rfl [55, 56, 57, 58, 59, 60, 61, 62, 63, 64, 65, 66, 67, 68, 69, 70, 71] [0, 1, 2, 3, 4, 5, 6, 7, 8, 9, 10, 11, 12, 13, 14, 15, 16, 17, 18, 19, 20, 21, 22, 23, 24, 25, 26, 27, 28, 29, 30, 31, 32, 33, 34, 35, 36, 37, 38, 39, 40, 41, 42, 43, 44, 45, 46, 47, 48, 49, 50, 51, 52, 53, 54] [0, 1, 2, 3, 4, 5, 6, 7, 8, 9, 10, 11, 12, 13, 14, 15, 16, 17, 18, 19, 20, 21, 22, 23, 24, 25, 26, 27, 28, 29, 30, 31, 32, 33, 34, 35, 36, 37, 38, 39, 40, 41, 42, 43, 44, 45, 46, 47, 48, 49, 50, 51, 52, 53, 54, 55, 56, 57, 58, 59, 60, 61, 62, 63, 64, 65, 66, 67, 68, 69, 70, 71] rfl rfl (by decide) (fun _ => rfl) rfl (Nat.le_of_ble_eq_true rfl) dL_law_311 (fun r_19 vm_20 h => ?_)
        refine z_icmp_eq 1044 F dL_law_314 (by decide) (fun c9 => ?_) (fun c9 => ?_)
        · have h := h.1 c9
          exact z_lv [0, 1, 2, 3] rfl (t1044 K18 ih18 vg vs vp_18 vy ve vc vu vt vi vj vk vh vm_20 x3 h)
        · have h := h.2 c9
          refine z_iconst (v := 0) F dL_law_317 rfl ?_
          exact hret (0 : Int32) (vg, vs, vp_18, vy, ve, vc, vu, vt, vi, vj, vk, vh, vm_20) _ _ h dL_law_318
      have h := h.2 c4
      by_cases c5 : ((xs (x3).toNatClampNeg) &&& (31 : Int32)) = 5
      · have h := h.1 c5
        refine z_tableIn (off := 286) 319 F dL_law_33 (by rw [c5] <;> decide) (by rw [c5] <;> decide) (by rw [c5] <;> decide) (by decide) ?_
        refine z_aload_n F dL_law_319 rfl 1 rfl ?_
        refine z_callVi (fun u9 => w_law G a ab vg vs u9 vy ve vc vu vt vi vj vk vh vm) F (mX6_fault G a vp _ h) gL_law_X6_fault rfl hdX6_fault ⟨rfl, rfl, Nat.le_of_ble_eq_true rfl, Nat.le_of_ble_eq_true rfl, Nat.le_of_ble_eq_true rfl, Nat.le_of_ble_eq_true rfl⟩ 0 rfl rfl [0, 17, 18] [1, 2, 3, 4, 5, 6, 7, 8, 9, 10, 11, 12, 13, 14, 15, 16, 19, 20, 21, 22, 23, 24, 25, 26, 27, 28, 29, 30, 31, 32, 33, 34, 35, 36, 37, 38, 39, 40, 41, 42, 43, 44, 45, 46, 47, 48, 49, 50, 51, 52, 53, 54, 55, 56, 57, 58, 59, 60, 61, 62, 63, 64, 65, 66, 67, 68, 69, 70, 71] [69, 0, 1, 2, 3, 4, 5, 6, 7, 8, 9, 10, 11, 12, 13, 14, 15, 70, 71, 16, 17, 18, 19, 20, 21, 22, 23, 24, 25, 26, 27, 28, 29, 30, 31, 32, 33, 34, 35, 36, 37, 38, 39, 40, 41, 42, 43, 44, 45, 46, 47, 48, 49, 50, 51, 52, 53, 54, 55, 56, 57, 58, 59, 60, 61, 62, 63, 64, 65, 66, 67, 68] rfl rfl (by decide) (fun _ => rfl) rfl (Nat.le_of_ble_eq_true rfl) dL_law_320 (fun r_21 vp_22 h => ?_)
        refine z_aload_n F dL_law_323 rfl 2 rfl ?_
        refine z_callVi (fun u9 => w_law G a ab vg vs vp_22 vy ve vc vu vt vi vj vk vh u9) F (mX7_fault G ab vm _ h) gL_law_X7_fault rfl hdX7_fault ⟨rfl, rfl, Nat.le_of_ble_eq_true rfl, Nat.le_of_ble_eq_true rfl, Nat.le_of_ble_eq_true rfl, Nat.le_of_ble_eq_true rfl⟩ 55 rfl rfl [55, 56, 57, 58, 59, 60, 61, 62, 63, 64, 65, 66, 67, 68, 69, 70, 71] [0, 1, 2, 3, 4, 5, 6, 7, 8, 9, 10, 11, 12, 13, 14, 15, 16, 17, 18, 19, 20, 21, 22, 23, 24, 25, 26, 27, 28, 29, 30, 31, 32, 33, 34, 35, 36, 37, 38, 39, 40, 41, 42, 43, 44, 45, 46, 47, 48, 49, 50, 51, 52, 53, 54] [0, 1, 2, 3, 4, 5, 6, 7, 8, 9, 10, 11, 12, 13, 14, 15, 16, 17, 18, 19, 20, 21, 22, 23, 24, 25, 26, 27, 28, 29, 30, 31, 32, 33, 34, 35, 36, 37, 38, 39, 40, 41, 42, 43, 44, 45, 46, 47, 48, 49, 50, 51, 52, 53, 54, 55, 56, 57, 58, 59, 60, 61, 62, 63, 64, 65, 66, 67, 68, 69, 70, 71] rfl rfl (by decide) (fun _ => rfl) rfl (Nat.le_of_ble_eq_true rfl) dL_law_324 (fun r_23 vm_24 h => ?_)
        refine z_icmp_eq 1044 F dL_law_327 (by decide) (fun c9 => ?_) (fun c9 => ?_)
        · have h := h.1 c9
          exact z_lv [0, 1, 2, 3] rfl (t1044 K18 ih18 vg vs vp_22 vy ve vc vu vt vi vj vk vh vm_24 x3 h)
        · have h := h.2 c9
          refine z_iconst (v := 0) F dL_law_330 rfl ?_
          exact hret (0 : Int32) (vg, vs, vp_22, vy, ve, vc, vu, vt, vi, vj, vk, vh, vm_24) _ _ h dL_law_331
      have h := h.2 c5
      by_cases c6 : ((xs (x3).toNatClampNeg) &&& (31 : Int32)) = 6
      · have h := h.1 c6
        refine z_tableIn (off := 299) 332 F dL_law_33 (by rw [c6] <;> decide) (by rw [c6] <;> decide) (by rw [c6] <;> decide) (by decide) ?_
        refine z_aload_n F dL_law_332 rfl 1 rfl ?_
        refine z_aload_n F dL_law_333 rfl 0 rfl ?_
        refine z_iload_n F dL_law_334 rfl 3 rfl ?_
        refine z_iconst (v := 1) F dL_law_335 rfl ?_
        refine z_iadd F dL_law_336 ?_
        have h9 := h.1
        have h := h.2
        refine z_sld F X h9 dL_law_337 ?_
        refine z_callVi (fun u9 => w_law G a ab u9.1 vs u9.2.1 u9.2.2.1 u9.2.2.2 vc vu vt vi vj vk vh vm) F (mX6_judge G a vg vp vy ve (xs ((x3 + (1 : Int32))).toNatClampNeg) _ h) gL_law_X6_judge rfl hdX6_judge ⟨rfl, rfl, Nat.le_of_ble_eq_true rfl, Nat.le_of_ble_eq_true rfl, Nat.le_of_ble_eq_true rfl, Nat.le_of_ble_eq_true rfl⟩ 0 rfl rfl [0, 1, 2, 3, 4, 5, 6, 7, 8, 17, 18, 19, 20, 21, 22, 23, 24, 25, 26, 27] [9, 10, 11, 12, 13, 14, 15, 16, 28, 29, 30, 31, 32, 33, 34, 35, 36, 37, 38, 39, 40, 41, 42, 43, 44, 45, 46, 47, 48, 49, 50, 51, 52, 53, 54, 55, 56, 57, 58, 59, 60, 61, 62, 63, 64, 65, 66, 67, 68, 69, 70, 71] [52, 53, 54, 55, 56, 57, 58, 59, 60, 0, 1, 2, 3, 4, 5, 6, 7, 61, 62, 63, 64, 65, 66, 67, 68, 69, 70, 71, 8, 9, 10, 11, 12, 13, 14, 15, 16, 17, 18, 19, 20, 21, 22, 23, 24, 25, 26, 27, 28, 29, 30, 31, 32, 33, 34, 35, 36, 37, 38, 39, 40, 41, 42, 43, 44, 45, 46, 47, 48, 49, 50, 51] rfl rfl (by decide) (fun _ => rfl) rfl (Nat.le_of_ble_eq_true rfl) dL_law_338 (fun r_25 u9 h => ?_)
        obtain ⟨vg_26, vp_27, vy_28, ve_29⟩ := u9
        refine z_w (w' := w_law G a ab vg_26 vs vp_27 vy_28 ve_29 vc vu vt vi vj vk vh vm) rfl ?_
        refine z_aload_n F dL_law_341 rfl 2 rfl ?_
        refine z_aload_n F dL_law_342 rfl 0 rfl ?_
        refine z_iload_n F dL_law_343 rfl 3 rfl ?_
        refine z_iconst (v := 1) F dL_law_344 rfl ?_
        refine z_iadd F dL_law_345 ?_
        have h9 := h.1
        have h := h.2
        refine z_sld F X h9 dL_law_346 ?_
        refine z_callVi (fun u9 => w_law G a ab vg_26 vs vp_27 vy_28 ve_29 vc vu vt vi vj vk vh u9) F (mX7_judge G ab vm (xs ((x3 + (1 : Int32))).toNatClampNeg) _ h) gL_law_X7_judge rfl hdX7_judge ⟨rfl, rfl, Nat.le_of_ble_eq_true rfl, Nat.le_of_ble_eq_true rfl, Nat.le_of_ble_eq_true rfl, Nat.le_of_ble_eq_true rfl⟩ 55 rfl rfl [55, 56, 57, 58, 59, 60, 61, 62, 63, 64, 65, 66, 67, 68, 69, 70, 71] [0, 1, 2, 3, 4, 5, 6, 7, 8, 9, 10, 11, 12, 13, 14, 15, 16, 17, 18, 19, 20, 21, 22, 23, 24, 25, 26, 27, 28, 29, 30, 31, 32, 33, 34, 35, 36, 37, 38, 39, 40, 41, 42, 43, 44, 45, 46, 47, 48, 49, 50, 51, 52, 53, 54] [0, 1, 2, 3, 4, 5, 6, 7, 8, 9, 10, 11, 12, 13, 14, 15, 16, 17, 18, 19, 20, 21, 22, 23, 24, 25, 26, 27, 28, 29, 30, 31, 32, 33, 34, 35, 36, 37, 38, 39, 40, 41, 42, 43, 44, 45, 46, 47, 48, 49, 50, 51, 52, 53, 54, 55, 56, 57, 58, 59, 60, 61, 62, 63, 64, 65, 66, 67, 68, 69, 70, 71] rfl rfl (by decide) (fun _ => rfl) rfl (Nat.le_of_ble_eq_true rfl) dL_law_347 (fun r_30 vm_31 h => ?_)
        refine z_icmp_eq 1044 F dL_law_350 (by decide) (fun c9 => ?_) (fun c9 => ?_)
        · have h := h.1 c9
          exact z_lv [0, 1, 2, 3] rfl (t1044 K18 ih18 vg_26 vs vp_27 vy_28 ve_29 vc vu vt vi vj vk vh vm_31 x3 h)
        · have h := h.2 c9
          refine z_iconst (v := 0) F dL_law_353 rfl ?_
          exact hret (0 : Int32) (vg_26, vs, vp_27, vy_28, ve_29, vc, vu, vt, vi, vj, vk, vh, vm_31) _ _ h dL_law_354
      have h := h.2 c6
      by_cases c7 : ((xs (x3).toNatClampNeg) &&& (31 : Int32)) = 7
      · have h := h.1 c7
        refine z_tableIn (off := 322) 355 F dL_law_33 (by rw [c7] <;> decide) (by rw [c7] <;> decide) (by rw [c7] <;> decide) (by decide) ?_
        refine z_aload_n F dL_law_355 rfl 1 rfl ?_
        refine z_callVi (fun u9 => w_law G a ab u9.1 vs u9.2.1 u9.2.2.1 u9.2.2.2 vc vu vt vi vj vk vh vm) F (mX6_done G a vg vp vy ve _ h) gL_law_X6_done rfl hdX6_done ⟨rfl, rfl, Nat.le_of_ble_eq_true rfl, Nat.le_of_ble_eq_true rfl, Nat.le_of_ble_eq_true rfl, Nat.le_of_ble_eq_true rfl⟩ 0 rfl rfl [0, 1, 2, 3, 4, 5, 6, 7, 8, 17, 18, 19, 20, 21, 22, 23, 24, 25, 26, 27] [9, 10, 11, 12, 13, 14, 15, 16, 28, 29, 30, 31, 32, 33, 34, 35, 36, 37, 38, 39, 40, 41, 42, 43, 44, 45, 46, 47, 48, 49, 50, 51, 52, 53, 54, 55, 56, 57, 58, 59, 60, 61, 62, 63, 64, 65, 66, 67, 68, 69, 70, 71] [52, 53, 54, 55, 56, 57, 58, 59, 60, 0, 1, 2, 3, 4, 5, 6, 7, 61, 62, 63, 64, 65, 66, 67, 68, 69, 70, 71, 8, 9, 10, 11, 12, 13, 14, 15, 16, 17, 18, 19, 20, 21, 22, 23, 24, 25, 26, 27, 28, 29, 30, 31, 32, 33, 34, 35, 36, 37, 38, 39, 40, 41, 42, 43, 44, 45, 46, 47, 48, 49, 50, 51] rfl rfl (by decide) (fun _ => rfl) rfl (Nat.le_of_ble_eq_true rfl) dL_law_356 (fun r_32 u9 h => ?_)
        obtain ⟨vg_33, vp_34, vy_35, ve_36⟩ := u9
        refine z_w (w' := w_law G a ab vg_33 vs vp_34 vy_35 ve_36 vc vu vt vi vj vk vh vm) rfl ?_
        refine z_aload_n F dL_law_359 rfl 2 rfl ?_
        refine z_callVi (fun u9 => w_law G a ab vg_33 vs vp_34 vy_35 ve_36 vc vu vt vi vj vk vh u9) F (mX7_done G ab vm _ h) gL_law_X7_done rfl hdX7_done ⟨rfl, rfl, Nat.le_of_ble_eq_true rfl, Nat.le_of_ble_eq_true rfl, Nat.le_of_ble_eq_true rfl, Nat.le_of_ble_eq_true rfl⟩ 55 rfl rfl [55, 56, 57, 58, 59, 60, 61, 62, 63, 64, 65, 66, 67, 68, 69, 70, 71] [0, 1, 2, 3, 4, 5, 6, 7, 8, 9, 10, 11, 12, 13, 14, 15, 16, 17, 18, 19, 20, 21, 22, 23, 24, 25, 26, 27, 28, 29, 30, 31, 32, 33, 34, 35, 36, 37, 38, 39, 40, 41, 42, 43, 44, 45, 46, 47, 48, 49, 50, 51, 52, 53, 54] [0, 1, 2, 3, 4, 5, 6, 7, 8, 9, 10, 11, 12, 13, 14, 15, 16, 17, 18, 19, 20, 21, 22, 23, 24, 25, 26, 27, 28, 29, 30, 31, 32, 33, 34, 35, 36, 37, 38, 39, 40, 41, 42, 43, 44, 45, 46, 47, 48, 49, 50, 51, 52, 53, 54, 55, 56, 57, 58, 59, 60, 61, 62, 63, 64, 65, 66, 67, 68, 69, 70, 71] rfl rfl (by decide) (fun _ => rfl) rfl (Nat.le_of_ble_eq_true rfl) dL_law_360 (fun r_37 vm_38 h => ?_)
        refine z_icmp_eq 1044 F dL_law_363 (by decide) (fun c9 => ?_) (fun c9 => ?_)
        · have h := h.1 c9
          exact z_lv [0, 1, 2, 3] rfl (t1044 K18 ih18 vg_33 vs vp_34 vy_35 ve_36 vc vu vt vi vj vk vh vm_38 x3 h)
        · have h := h.2 c9
          refine z_iconst (v := 0) F dL_law_366 rfl ?_
          exact hret (0 : Int32) (vg_33, vs, vp_34, vy_35, ve_36, vc, vu, vt, vi, vj, vk, vh, vm_38) _ _ h dL_law_367
      have h := h.2 c7
      by_cases c8 : ((xs (x3).toNatClampNeg) &&& (31 : Int32)) = 8
      · have h := h.1 c8
        refine z_tableIn (off := 335) 368 F dL_law_33 (by rw [c8] <;> decide) (by rw [c8] <;> decide) (by rw [c8] <;> decide) (by decide) ?_
        refine z_aload_n F dL_law_368 rfl 1 rfl ?_
        refine z_aload_n F dL_law_369 rfl 0 rfl ?_
        refine z_iload_n F dL_law_370 rfl 3 rfl ?_
        refine z_iconst (v := 1) F dL_law_371 rfl ?_
        refine z_iadd F dL_law_372 ?_
        have h9 := h.1
        have h := h.2
        refine z_sld F X h9 dL_law_373 ?_
        refine z_callVi (fun u9 => w_law G a ab u9.1 vs u9.2.1 u9.2.2.1 u9.2.2.2 vc vu vt vi vj vk vh vm) F (mX6_behind G a vg vp vy ve (xs ((x3 + (1 : Int32))).toNatClampNeg) _ h) gL_law_X6_behind rfl hdX6_behind ⟨rfl, rfl, Nat.le_of_ble_eq_true rfl, Nat.le_of_ble_eq_true rfl, Nat.le_of_ble_eq_true rfl, Nat.le_of_ble_eq_true rfl⟩ 0 rfl rfl [0, 1, 2, 3, 4, 5, 6, 7, 8, 17, 18, 19, 20, 21, 22, 23, 24, 25, 26, 27] [9, 10, 11, 12, 13, 14, 15, 16, 28, 29, 30, 31, 32, 33, 34, 35, 36, 37, 38, 39, 40, 41, 42, 43, 44, 45, 46, 47, 48, 49, 50, 51, 52, 53, 54, 55, 56, 57, 58, 59, 60, 61, 62, 63, 64, 65, 66, 67, 68, 69, 70, 71] [52, 53, 54, 55, 56, 57, 58, 59, 60, 0, 1, 2, 3, 4, 5, 6, 7, 61, 62, 63, 64, 65, 66, 67, 68, 69, 70, 71, 8, 9, 10, 11, 12, 13, 14, 15, 16, 17, 18, 19, 20, 21, 22, 23, 24, 25, 26, 27, 28, 29, 30, 31, 32, 33, 34, 35, 36, 37, 38, 39, 40, 41, 42, 43, 44, 45, 46, 47, 48, 49, 50, 51] rfl rfl (by decide) (fun _ => rfl) rfl (Nat.le_of_ble_eq_true rfl) dL_law_374 (fun r_39 u9 h => ?_)
        obtain ⟨vg_40, vp_41, vy_42, ve_43⟩ := u9
        refine z_w (w' := w_law G a ab vg_40 vs vp_41 vy_42 ve_43 vc vu vt vi vj vk vh vm) rfl ?_
        refine z_aload_n F dL_law_377 rfl 2 rfl ?_
        refine z_aload_n F dL_law_378 rfl 0 rfl ?_
        refine z_iload_n F dL_law_379 rfl 3 rfl ?_
        refine z_iconst (v := 1) F dL_law_380 rfl ?_
        refine z_iadd F dL_law_381 ?_
        have h9 := h.1
        have h := h.2
        refine z_sld F X h9 dL_law_382 ?_
        refine z_callVi (fun u9 => w_law G a ab vg_40 vs vp_41 vy_42 ve_43 vc vu vt vi vj vk vh u9) F (mX7_behind G ab vm (xs ((x3 + (1 : Int32))).toNatClampNeg) _ h) gL_law_X7_behind rfl hdX7_behind ⟨rfl, rfl, Nat.le_of_ble_eq_true rfl, Nat.le_of_ble_eq_true rfl, Nat.le_of_ble_eq_true rfl, Nat.le_of_ble_eq_true rfl⟩ 55 rfl rfl [55, 56, 57, 58, 59, 60, 61, 62, 63, 64, 65, 66, 67, 68, 69, 70, 71] [0, 1, 2, 3, 4, 5, 6, 7, 8, 9, 10, 11, 12, 13, 14, 15, 16, 17, 18, 19, 20, 21, 22, 23, 24, 25, 26, 27, 28, 29, 30, 31, 32, 33, 34, 35, 36, 37, 38, 39, 40, 41, 42, 43, 44, 45, 46, 47, 48, 49, 50, 51, 52, 53, 54] [0, 1, 2, 3, 4, 5, 6, 7, 8, 9, 10, 11, 12, 13, 14, 15, 16, 17, 18, 19, 20, 21, 22, 23, 24, 25, 26, 27, 28, 29, 30, 31, 32, 33, 34, 35, 36, 37, 38, 39, 40, 41, 42, 43, 44, 45, 46, 47, 48, 49, 50, 51, 52, 53, 54, 55, 56, 57, 58, 59, 60, 61, 62, 63, 64, 65, 66, 67, 68, 69, 70, 71] rfl rfl (by decide) (fun _ => rfl) rfl (Nat.le_of_ble_eq_true rfl) dL_law_383 (fun r_44 vm_45 h => ?_)
        refine z_icmp_eq 1044 F dL_law_386 (by decide) (fun c9 => ?_) (fun c9 => ?_)
        · have h := h.1 c9
          exact z_lv [0, 1, 2, 3] rfl (t1044 K18 ih18 vg_40 vs vp_41 vy_42 ve_43 vc vu vt vi vj vk vh vm_45 x3 h)
        · have h := h.2 c9
          refine z_iconst (v := 0) F dL_law_389 rfl ?_
          exact hret (0 : Int32) (vg_40, vs, vp_41, vy_42, ve_43, vc, vu, vt, vi, vj, vk, vh, vm_45) _ _ h dL_law_390
      have h := h.2 c8
      by_cases c9 : ((xs (x3).toNatClampNeg) &&& (31 : Int32)) = 9
      · have h := h.1 c9
        refine z_tableIn (off := 358) 391 F dL_law_33 (by rw [c9] <;> decide) (by rw [c9] <;> decide) (by rw [c9] <;> decide) (by decide) ?_
        refine z_aload_n F dL_law_391 rfl 1 rfl ?_
        refine z_callVi (fun u9 => w_law G a ab u9.1 vs u9.2.1 u9.2.2.1 u9.2.2.2 vc vu vt vi vj vk vh vm) F (mX6_broken G a vg vp vy ve _ h) gL_law_X6_broken rfl hdX6_broken ⟨rfl, rfl, Nat.le_of_ble_eq_true rfl, Nat.le_of_ble_eq_true rfl, Nat.le_of_ble_eq_true rfl, Nat.le_of_ble_eq_true rfl⟩ 0 rfl rfl [0, 1, 2, 3, 4, 5, 6, 7, 8, 17, 18, 19, 20, 21, 22, 23, 24, 25, 26, 27] [9, 10, 11, 12, 13, 14, 15, 16, 28, 29, 30, 31, 32, 33, 34, 35, 36, 37, 38, 39, 40, 41, 42, 43, 44, 45, 46, 47, 48, 49, 50, 51, 52, 53, 54, 55, 56, 57, 58, 59, 60, 61, 62, 63, 64, 65, 66, 67, 68, 69, 70, 71] [52, 53, 54, 55, 56, 57, 58, 59, 60, 0, 1, 2, 3, 4, 5, 6, 7, 61, 62, 63, 64, 65, 66, 67, 68, 69, 70, 71, 8, 9, 10, 11, 12, 13, 14, 15, 16, 17, 18, 19, 20, 21, 22, 23, 24, 25, 26, 27, 28, 29, 30, 31, 32, 33, 34, 35, 36, 37, 38, 39, 40, 41, 42, 43, 44, 45, 46, 47, 48, 49, 50, 51] rfl rfl (by decide) (fun _ => rfl) rfl (Nat.le_of_ble_eq_true rfl) dL_law_392 (fun r_46 u9 h => ?_)
        obtain ⟨vg_47, vp_48, vy_49, ve_50⟩ := u9
        refine z_w (w' := w_law G a ab vg_47 vs vp_48 vy_49 ve_50 vc vu vt vi vj vk vh vm) rfl ?_
        refine z_aload_n F dL_law_395 rfl 2 rfl ?_
        refine z_callVi (fun u9 => w_law G a ab vg_47 vs vp_48 vy_49 ve_50 vc vu vt vi vj vk vh u9) F (mX7_broken G ab vm _ h) gL_law_X7_broken rfl hdX7_broken ⟨rfl, rfl, Nat.le_of_ble_eq_true rfl, Nat.le_of_ble_eq_true rfl, Nat.le_of_ble_eq_true rfl, Nat.le_of_ble_eq_true rfl⟩ 55 rfl rfl [55, 56, 57, 58, 59, 60, 61, 62, 63, 64, 65, 66, 67, 68, 69, 70, 71] [0, 1, 2, 3, 4, 5, 6, 7, 8, 9, 10, 11, 12, 13, 14, 15, 16, 17, 18, 19, 20, 21, 22, 23, 24, 25, 26, 27, 28, 29, 30, 31, 32, 33, 34, 35, 36, 37, 38, 39, 40, 41, 42, 43, 44, 45, 46, 47, 48, 49, 50, 51, 52, 53, 54] [0, 1, 2, 3, 4, 5, 6, 7, 8, 9, 10, 11, 12, 13, 14, 15, 16, 17, 18, 19, 20, 21, 22, 23, 24, 25, 26, 27, 28, 29, 30, 31, 32, 33, 34, 35, 36, 37, 38, 39, 40, 41, 42, 43, 44, 45, 46, 47, 48, 49, 50, 51, 52, 53, 54, 55, 56, 57, 58, 59, 60, 61, 62, 63, 64, 65, 66, 67, 68, 69, 70, 71] rfl rfl (by decide) (fun _ => rfl) rfl (Nat.le_of_ble_eq_true rfl) dL_law_396 (fun r_51 vm_52 h => ?_)
        refine z_icmp_eq 1044 F dL_law_399 (by decide) (fun c9 => ?_) (fun c9 => ?_)
        · have h := h.1 c9
          exact z_lv [0, 1, 2, 3] rfl (t1044 K18 ih18 vg_47 vs vp_48 vy_49 ve_50 vc vu vt vi vj vk vh vm_52 x3 h)
        · have h := h.2 c9
          refine z_iconst (v := 0) F dL_law_402 rfl ?_
          exact hret (0 : Int32) (vg_47, vs, vp_48, vy_49, ve_50, vc, vu, vt, vi, vj, vk, vh, vm_52) _ _ h dL_law_403
      have h := h.2 c9
      by_cases c10 : ((xs (x3).toNatClampNeg) &&& (31 : Int32)) = 10
      · have h := h.1 c10
        refine z_tableIn (off := 371) 404 F dL_law_33 (by rw [c10] <;> decide) (by rw [c10] <;> decide) (by rw [c10] <;> decide) (by decide) ?_
        refine z_aload_n F dL_law_404 rfl 1 rfl ?_
        refine z_aload_n F dL_law_405 rfl 0 rfl ?_
        refine z_iload_n F dL_law_406 rfl 3 rfl ?_
        refine z_iconst (v := 1) F dL_law_407 rfl ?_
        refine z_iadd F dL_law_408 ?_
        have h9 := h.1
        have h := h.2
        refine z_sld F X h9 dL_law_409 ?_
        refine z_callVi (fun u9 => w_law G a ab u9 vs vp vy ve vc vu vt vi vj vk vh vm) F (mX6_sees G a vg (xs ((x3 + (1 : Int32))).toNatClampNeg) _ h) gL_law_X6_sees rfl hdX6_sees ⟨rfl, rfl, Nat.le_of_ble_eq_true rfl, Nat.le_of_ble_eq_true rfl, Nat.le_of_ble_eq_true rfl, Nat.le_of_ble_eq_true rfl⟩ 0 rfl rfl [0, 1, 2, 3, 4, 5, 6, 7, 8] [9, 10, 11, 12, 13, 14, 15, 16, 17, 18, 19, 20, 21, 22, 23, 24, 25, 26, 27, 28, 29, 30, 31, 32, 33, 34, 35, 36, 37, 38, 39, 40, 41, 42, 43, 44, 45, 46, 47, 48, 49, 50, 51, 52, 53, 54, 55, 56, 57, 58, 59, 60, 61, 62, 63, 64, 65, 66, 67, 68, 69, 70, 71] [63, 64, 65, 66, 67, 68, 69, 70, 71, 0, 1, 2, 3, 4, 5, 6, 7, 8, 9, 10, 11, 12, 13, 14, 15, 16, 17, 18, 19, 20, 21, 22, 23, 24, 25, 26, 27, 28, 29, 30, 31, 32, 33, 34, 35, 36, 37, 38, 39, 40, 41, 42, 43, 44, 45, 46, 47, 48, 49, 50, 51, 52, 53, 54, 55, 56, 57, 58, 59, 60, 61, 62] rfl rfl (by decide) (fun _ => rfl) rfl (Nat.le_of_ble_eq_true rfl) dL_law_410 (fun r_53 vg_54 h => ?_)
        refine z_aload_n F dL_law_413 rfl 2 rfl ?_
        refine z_aload_n F dL_law_414 rfl 0 rfl ?_
        refine z_iload_n F dL_law_415 rfl 3 rfl ?_
        refine z_iconst (v := 1) F dL_law_416 rfl ?_
        refine z_iadd F dL_law_417 ?_
        have h9 := h.1
        have h := h.2
        refine z_sld F X h9 dL_law_418 ?_
        refine z_callVi (fun u9 => w_law G a ab vg_54 vs vp vy ve vc vu vt vi vj vk vh u9) F (mX7_sees G ab vm (xs ((x3 + (1 : Int32))).toNatClampNeg) _ h) gL_law_X7_sees rfl hdX7_sees ⟨rfl, rfl, Nat.le_of_ble_eq_true rfl, Nat.le_of_ble_eq_true rfl, Nat.le_of_ble_eq_true rfl, Nat.le_of_ble_eq_true rfl⟩ 55 rfl rfl [55, 56, 57, 58, 59, 60, 61, 62, 63, 64, 65, 66, 67, 68, 69, 70, 71] [0, 1, 2, 3, 4, 5, 6, 7, 8, 9, 10, 11, 12, 13, 14, 15, 16, 17, 18, 19, 20, 21, 22, 23, 24, 25, 26, 27, 28, 29, 30, 31, 32, 33, 34, 35, 36, 37, 38, 39, 40, 41, 42, 43, 44, 45, 46, 47, 48, 49, 50, 51, 52, 53, 54] [0, 1, 2, 3, 4, 5, 6, 7, 8, 9, 10, 11, 12, 13, 14, 15, 16, 17, 18, 19, 20, 21, 22, 23, 24, 25, 26, 27, 28, 29, 30, 31, 32, 33, 34, 35, 36, 37, 38, 39, 40, 41, 42, 43, 44, 45, 46, 47, 48, 49, 50, 51, 52, 53, 54, 55, 56, 57, 58, 59, 60, 61, 62, 63, 64, 65, 66, 67, 68, 69, 70, 71] rfl rfl (by decide) (fun _ => rfl) rfl (Nat.le_of_ble_eq_true rfl) dL_law_419 (fun r_55 vm_56 h => ?_)
        refine z_icmp_eq 1044 F dL_law_422 (by decide) (fun c9 => ?_) (fun c9 => ?_)
        · have h := h.1 c9
          exact z_lv [0, 1, 2, 3] rfl (t1044 K18 ih18 vg_54 vs vp vy ve vc vu vt vi vj vk vh vm_56 x3 h)
        · have h := h.2 c9
          refine z_iconst (v := 0) F dL_law_425 rfl ?_
          exact hret (0 : Int32) (vg_54, vs, vp, vy, ve, vc, vu, vt, vi, vj, vk, vh, vm_56) _ _ h dL_law_426
      have h := h.2 c10
      by_cases c11 : ((xs (x3).toNatClampNeg) &&& (31 : Int32)) = 11
      · have h := h.1 c11
        refine z_tableIn (off := 394) 427 F dL_law_33 (by rw [c11] <;> decide) (by rw [c11] <;> decide) (by rw [c11] <;> decide) (by decide) ?_
        refine z_aload_n F dL_law_427 rfl 1 rfl ?_
        refine z_aload_n F dL_law_428 rfl 0 rfl ?_
        refine z_iload_n F dL_law_429 rfl 3 rfl ?_
        refine z_iconst (v := 1) F dL_law_430 rfl ?_
        refine z_iadd F dL_law_431 ?_
        have h9 := h.1
        have h := h.2
        refine z_sld F X h9 dL_law_432 ?_
        refine z_aload_n F dL_law_433 rfl 0 rfl ?_
        refine z_iload_n F dL_law_434 rfl 3 rfl ?_
        refine z_iconst (v := 2) F dL_law_435 rfl ?_
        refine z_iadd F dL_law_436 ?_
        have h9 := h.1
        have h := h.2
        refine z_sld F X h9 dL_law_437 ?_
        refine z_callVi (fun u9 => w_law G a ab u9.1 vs vp vy ve u9.2 vu vt vi vj vk vh vm) F (mX6_forecast G a vg vc (xs ((x3 + (1 : Int32))).toNatClampNeg) (xs ((x3 + (2 : Int32))).toNatClampNeg) _ h) gL_law_X6_forecast rfl hdX6_forecast ⟨rfl, rfl, Nat.le_of_ble_eq_true rfl, Nat.le_of_ble_eq_true rfl, Nat.le_of_ble_eq_true rfl, Nat.le_of_ble_eq_true rfl⟩ 0 rfl rfl [0, 1, 2, 3, 4, 5, 6, 7, 8, 28, 29] [9, 10, 11, 12, 13, 14, 15, 16, 17, 18, 19, 20, 21, 22, 23, 24, 25, 26, 27, 30, 31, 32, 33, 34, 35, 36, 37, 38, 39, 40, 41, 42, 43, 44, 45, 46, 47, 48, 49, 50, 51, 52, 53, 54, 55, 56, 57, 58, 59, 60, 61, 62, 63, 64, 65, 66, 67, 68, 69, 70, 71] [61, 62, 63, 64, 65, 66, 67, 68, 69, 0, 1, 2, 3, 4, 5, 6, 7, 8, 9, 10, 11, 12, 13, 14, 15, 16, 17, 18, 70, 71, 19, 20, 21, 22, 23, 24, 25, 26, 27, 28, 29, 30, 31, 32, 33, 34, 35, 36, 37, 38, 39, 40, 41, 42, 43, 44, 45, 46, 47, 48, 49, 50, 51, 52, 53, 54, 55, 56, 57, 58, 59, 60] rfl rfl (by decide) (fun _ => rfl) rfl (Nat.le_of_ble_eq_true rfl) dL_law_438 (fun r_57 u9 h => ?_)
        obtain ⟨vg_58, vc_59⟩ := u9
        refine z_w (w' := w_law G a ab vg_58 vs vp vy ve vc_59 vu vt vi vj vk vh vm) rfl ?_
        refine z_aload_n F dL_law_441 rfl 2 rfl ?_
        refine z_aload_n F dL_law_442 rfl 0 rfl ?_
        refine z_iload_n F dL_law_443 rfl 3 rfl ?_
        refine z_iconst (v := 1) F dL_law_444 rfl ?_
        refine z_iadd F dL_law_445 ?_
        have h9 := h.1
        have h := h.2
        refine z_sld F X h9 dL_law_446 ?_
        refine z_aload_n F dL_law_447 rfl 0 rfl ?_
        refine z_iload_n F dL_law_448 rfl 3 rfl ?_
        refine z_iconst (v := 2) F dL_law_449 rfl ?_
        refine z_iadd F dL_law_450 ?_
        have h9 := h.1
        have h := h.2
        refine z_sld F X h9 dL_law_451 ?_
        refine z_callVi (fun u9 => w_law G a ab vg_58 vs vp vy ve vc_59 vu vt vi vj vk vh u9) F (mX7_forecast G ab vm (xs ((x3 + (1 : Int32))).toNatClampNeg) (xs ((x3 + (2 : Int32))).toNatClampNeg) _ h) gL_law_X7_forecast rfl hdX7_forecast ⟨rfl, rfl, Nat.le_of_ble_eq_true rfl, Nat.le_of_ble_eq_true rfl, Nat.le_of_ble_eq_true rfl, Nat.le_of_ble_eq_true rfl⟩ 55 rfl rfl [55, 56, 57, 58, 59, 60, 61, 62, 63, 64, 65, 66, 67, 68, 69, 70, 71] [0, 1, 2, 3, 4, 5, 6, 7, 8, 9, 10, 11, 12, 13, 14, 15, 16, 17, 18, 19, 20, 21, 22, 23, 24, 25, 26, 27, 28, 29, 30, 31, 32, 33, 34, 35, 36, 37, 38, 39, 40, 41, 42, 43, 44, 45, 46, 47, 48, 49, 50, 51, 52, 53, 54] [0, 1, 2, 3, 4, 5, 6, 7, 8, 9, 10, 11, 12, 13, 14, 15, 16, 17, 18, 19, 20, 21, 22, 23, 24, 25, 26, 27, 28, 29, 30, 31, 32, 33, 34, 35, 36, 37, 38, 39, 40, 41, 42, 43, 44, 45, 46, 47, 48, 49, 50, 51, 52, 53, 54, 55, 56, 57, 58, 59, 60, 61, 62, 63, 64, 65, 66, 67, 68, 69, 70, 71] rfl rfl (by decide) (fun _ => rfl) rfl (Nat.le_of_ble_eq_true rfl) dL_law_452 (fun r_60 vm_61 h => ?_)
        refine z_icmp_eq 1044 F dL_law_455 (by decide) (fun c9 => ?_) (fun c9 => ?_)
        · have h := h.1 c9
          exact z_lv [0, 1, 2, 3] rfl (t1044 K18 ih18 vg_58 vs vp vy ve vc_59 vu vt vi vj vk vh vm_61 x3 h)
        · have h := h.2 c9
          refine z_iconst (v := 0) F dL_law_458 rfl ?_
          exact hret (0 : Int32) (vg_58, vs, vp, vy, ve, vc_59, vu, vt, vi, vj, vk, vh, vm_61) _ _ h dL_law_459
      have h := h.2 c11
      by_cases c12 : ((xs (x3).toNatClampNeg) &&& (31 : Int32)) = 12
      · have h := h.1 c12
        refine z_tableIn (off := 427) 460 F dL_law_33 (by rw [c12] <;> decide) (by rw [c12] <;> decide) (by rw [c12] <;> decide) (by decide) ?_
        refine z_aload_n F dL_law_460 rfl 1 rfl ?_
        refine z_callVi (fun u9 => w_law G a ab u9.1 vs vp vy ve u9.2 vu vt vi vj vk vh vm) F (mX6_gone G a vg vc _ h) gL_law_X6_gone rfl hdX6_gone ⟨rfl, rfl, Nat.le_of_ble_eq_true rfl, Nat.le_of_ble_eq_true rfl, Nat.le_of_ble_eq_true rfl, Nat.le_of_ble_eq_true rfl⟩ 0 rfl rfl [0, 1, 2, 3, 4, 5, 6, 7, 8, 28, 29] [9, 10, 11, 12, 13, 14, 15, 16, 17, 18, 19, 20, 21, 22, 23, 24, 25, 26, 27, 30, 31, 32, 33, 34, 35, 36, 37, 38, 39, 40, 41, 42, 43, 44, 45, 46, 47, 48, 49, 50, 51, 52, 53, 54, 55, 56, 57, 58, 59, 60, 61, 62, 63, 64, 65, 66, 67, 68, 69, 70, 71] [61, 62, 63, 64, 65, 66, 67, 68, 69, 0, 1, 2, 3, 4, 5, 6, 7, 8, 9, 10, 11, 12, 13, 14, 15, 16, 17, 18, 70, 71, 19, 20, 21, 22, 23, 24, 25, 26, 27, 28, 29, 30, 31, 32, 33, 34, 35, 36, 37, 38, 39, 40, 41, 42, 43, 44, 45, 46, 47, 48, 49, 50, 51, 52, 53, 54, 55, 56, 57, 58, 59, 60] rfl rfl (by decide) (fun _ => rfl) rfl (Nat.le_of_ble_eq_true rfl) dL_law_461 (fun r_62 u9 h => ?_)
        obtain ⟨vg_63, vc_64⟩ := u9
        refine z_w (w' := w_law G a ab vg_63 vs vp vy ve vc_64 vu vt vi vj vk vh vm) rfl ?_
        refine z_aload_n F dL_law_464 rfl 2 rfl ?_
        refine z_callVi (fun u9 => w_law G a ab vg_63 vs vp vy ve vc_64 vu vt vi vj vk vh u9) F (mX7_gone G ab vm _ h) gL_law_X7_gone rfl hdX7_gone ⟨rfl, rfl, Nat.le_of_ble_eq_true rfl, Nat.le_of_ble_eq_true rfl, Nat.le_of_ble_eq_true rfl, Nat.le_of_ble_eq_true rfl⟩ 55 rfl rfl [55, 56, 57, 58, 59, 60, 61, 62, 63, 64, 65, 66, 67, 68, 69, 70, 71] [0, 1, 2, 3, 4, 5, 6, 7, 8, 9, 10, 11, 12, 13, 14, 15, 16, 17, 18, 19, 20, 21, 22, 23, 24, 25, 26, 27, 28, 29, 30, 31, 32, 33, 34, 35, 36, 37, 38, 39, 40, 41, 42, 43, 44, 45, 46, 47, 48, 49, 50, 51, 52, 53, 54] [0, 1, 2, 3, 4, 5, 6, 7, 8, 9, 10, 11, 12, 13, 14, 15, 16, 17, 18, 19, 20, 21, 22, 23, 24, 25, 26, 27, 28, 29, 30, 31, 32, 33, 34, 35, 36, 37, 38, 39, 40, 41, 42, 43, 44, 45, 46, 47, 48, 49, 50, 51, 52, 53, 54, 55, 56, 57, 58, 59, 60, 61, 62, 63, 64, 65, 66, 67, 68, 69, 70, 71] rfl rfl (by decide) (fun _ => rfl) rfl (Nat.le_of_ble_eq_true rfl) dL_law_465 (fun r_65 vm_66 h => ?_)
        refine z_icmp_eq 1044 F dL_law_468 (by decide) (fun c9 => ?_) (fun c9 => ?_)
        · have h := h.1 c9
          exact z_lv [0, 1, 2, 3] rfl (t1044 K18 ih18 vg_63 vs vp vy ve vc_64 vu vt vi vj vk vh vm_66 x3 h)
        · have h := h.2 c9
          refine z_iconst (v := 0) F dL_law_471 rfl ?_
          exact hret (0 : Int32) (vg_63, vs, vp, vy, ve, vc_64, vu, vt, vi, vj, vk, vh, vm_66) _ _ h dL_law_472
      have h := h.2 c12
      by_cases c13 : ((xs (x3).toNatClampNeg) &&& (31 : Int32)) = 13
      · have h := h.1 c13
        refine z_tableIn (off := 440) 473 F dL_law_33 (by rw [c13] <;> decide) (by rw [c13] <;> decide) (by rw [c13] <;> decide) (by decide) ?_
        refine z_aload_n F dL_law_473 rfl 1 rfl ?_
        refine z_aload_n F dL_law_474 rfl 0 rfl ?_
        refine z_iload_n F dL_law_475 rfl 3 rfl ?_
        refine z_iconst (v := 1) F dL_law_476 rfl ?_
        refine z_iadd F dL_law_477 ?_
        have h9 := h.1
        have h := h.2
        refine z_sld F X h9 dL_law_478 ?_
        refine z_callVi (fun u9 => w_law G a ab u9.1 vs vp vy ve u9.2 vu vt vi vj vk vh vm) F (mX6_hue G a vg vc (xs ((x3 + (1 : Int32))).toNatClampNeg) _ h) gL_law_X6_hue rfl hdX6_hue ⟨rfl, rfl, Nat.le_of_ble_eq_true rfl, Nat.le_of_ble_eq_true rfl, Nat.le_of_ble_eq_true rfl, Nat.le_of_ble_eq_true rfl⟩ 0 rfl rfl [0, 1, 2, 3, 4, 5, 6, 7, 8, 28, 29] [9, 10, 11, 12, 13, 14, 15, 16, 17, 18, 19, 20, 21, 22, 23, 24, 25, 26, 27, 30, 31, 32, 33, 34, 35, 36, 37, 38, 39, 40, 41, 42, 43, 44, 45, 46, 47, 48, 49, 50, 51, 52, 53, 54, 55, 56, 57, 58, 59, 60, 61, 62, 63, 64, 65, 66, 67, 68, 69, 70, 71] [61, 62, 63, 64, 65, 66, 67, 68, 69, 0, 1, 2, 3, 4, 5, 6, 7, 8, 9, 10, 11, 12, 13, 14, 15, 16, 17, 18, 70, 71, 19, 20, 21, 22, 23, 24, 25, 26, 27, 28, 29, 30, 31, 32, 33, 34, 35, 36, 37, 38, 39, 40, 41, 42, 43, 44, 45, 46, 47, 48, 49, 50, 51, 52, 53, 54, 55, 56, 57, 58, 59, 60] rfl rfl (by decide) (fun _ => rfl) rfl (Nat.le_of_ble_eq_true rfl) dL_law_479 (fun r_67 u9 h => ?_)
        obtain ⟨vg_68, vc_69⟩ := u9
        refine z_w (w' := w_law G a ab vg_68 vs vp vy ve vc_69 vu vt vi vj vk vh vm) rfl ?_
        refine z_aload_n F dL_law_482 rfl 2 rfl ?_
        refine z_aload_n F dL_law_483 rfl 0 rfl ?_
        refine z_iload_n F dL_law_484 rfl 3 rfl ?_
        refine z_iconst (v := 1) F dL_law_485 rfl ?_
        refine z_iadd F dL_law_486 ?_
        have h9 := h.1
        have h := h.2
        refine z_sld F X h9 dL_law_487 ?_
        refine z_callVi (fun u9 => w_law G a ab vg_68 vs vp vy ve vc_69 vu vt vi vj vk vh u9) F (mX7_hue G ab vm (xs ((x3 + (1 : Int32))).toNatClampNeg) _ h) gL_law_X7_hue rfl hdX7_hue ⟨rfl, rfl, Nat.le_of_ble_eq_true rfl, Nat.le_of_ble_eq_true rfl, Nat.le_of_ble_eq_true rfl, Nat.le_of_ble_eq_true rfl⟩ 55 rfl rfl [55, 56, 57, 58, 59, 60, 61, 62, 63, 64, 65, 66, 67, 68, 69, 70, 71] [0, 1, 2, 3, 4, 5, 6, 7, 8, 9, 10, 11, 12, 13, 14, 15, 16, 17, 18, 19, 20, 21, 22, 23, 24, 25, 26, 27, 28, 29, 30, 31, 32, 33, 34, 35, 36, 37, 38, 39, 40, 41, 42, 43, 44, 45, 46, 47, 48, 49, 50, 51, 52, 53, 54] [0, 1, 2, 3, 4, 5, 6, 7, 8, 9, 10, 11, 12, 13, 14, 15, 16, 17, 18, 19, 20, 21, 22, 23, 24, 25, 26, 27, 28, 29, 30, 31, 32, 33, 34, 35, 36, 37, 38, 39, 40, 41, 42, 43, 44, 45, 46, 47, 48, 49, 50, 51, 52, 53, 54, 55, 56, 57, 58, 59, 60, 61, 62, 63, 64, 65, 66, 67, 68, 69, 70, 71] rfl rfl (by decide) (fun _ => rfl) rfl (Nat.le_of_ble_eq_true rfl) dL_law_488 (fun r_70 vm_71 h => ?_)
        refine z_icmp_eq 1044 F dL_law_491 (by decide) (fun c9 => ?_) (fun c9 => ?_)
        · have h := h.1 c9
          exact z_lv [0, 1, 2, 3] rfl (t1044 K18 ih18 vg_68 vs vp vy ve vc_69 vu vt vi vj vk vh vm_71 x3 h)
        · have h := h.2 c9
          refine z_iconst (v := 0) F dL_law_494 rfl ?_
          exact hret (0 : Int32) (vg_68, vs, vp, vy, ve, vc_69, vu, vt, vi, vj, vk, vh, vm_71) _ _ h dL_law_495
      have h := h.2 c13
      by_cases c14 : ((xs (x3).toNatClampNeg) &&& (31 : Int32)) = 14
      · have h := h.1 c14
        refine z_tableIn (off := 463) 496 F dL_law_33 (by rw [c14] <;> decide) (by rw [c14] <;> decide) (by rw [c14] <;> decide) (by decide) ?_
        refine z_aload_n F dL_law_496 rfl 1 rfl ?_
        refine z_aload_n F dL_law_497 rfl 0 rfl ?_
        refine z_iload_n F dL_law_498 rfl 3 rfl ?_
        refine z_iconst (v := 1) F dL_law_499 rfl ?_
        refine z_iadd F dL_law_500 ?_
        have h9 := h.1
        have h := h.2
        refine z_sld F X h9 dL_law_501 ?_
        refine z_aload_n F dL_law_502 rfl 0 rfl ?_
        refine z_iload_n F dL_law_503 rfl 3 rfl ?_
        refine z_iconst (v := 2) F dL_law_504 rfl ?_
        refine z_iadd F dL_law_505 ?_
        have h9 := h.1
        have h := h.2
        refine z_sld F X h9 dL_law_506 ?_
        refine z_aload_n F dL_law_507 rfl 0 rfl ?_
        refine z_iload_n F dL_law_508 rfl 3 rfl ?_
        refine z_iconst (v := 3) F dL_law_509 rfl ?_
        refine z_iadd F dL_law_510 ?_
        have h9 := h.1
        have h := h.2
        refine z_sld F X h9 dL_law_511 ?_
        refine z_aload_n F dL_law_512 rfl 0 rfl ?_
        refine z_iload_n F dL_law_513 rfl 3 rfl ?_
        refine z_iconst (v := 4) F dL_law_514 rfl ?_
        refine z_iadd F dL_law_515 ?_
        have h9 := h.1
        have h := h.2
        refine z_sld F X h9 dL_law_516 ?_
        refine z_callVi (fun u9 => w_law G a ab u9.1 vs vp vy ve u9.2 vu vt vi vj vk vh vm) F (mX6_make G a vg vc (xs ((x3 + (1 : Int32))).toNatClampNeg) (xs ((x3 + (2 : Int32))).toNatClampNeg) (xs ((x3 + (3 : Int32))).toNatClampNeg) (xs ((x3 + (4 : Int32))).toNatClampNeg) _ h) gL_law_X6_make rfl hdX6_make ⟨rfl, rfl, Nat.le_of_ble_eq_true rfl, Nat.le_of_ble_eq_true rfl, Nat.le_of_ble_eq_true rfl, Nat.le_of_ble_eq_true rfl⟩ 0 rfl rfl [0, 1, 2, 3, 4, 5, 6, 7, 8, 28, 29] [9, 10, 11, 12, 13, 14, 15, 16, 17, 18, 19, 20, 21, 22, 23, 24, 25, 26, 27, 30, 31, 32, 33, 34, 35, 36, 37, 38, 39, 40, 41, 42, 43, 44, 45, 46, 47, 48, 49, 50, 51, 52, 53, 54, 55, 56, 57, 58, 59, 60, 61, 62, 63, 64, 65, 66, 67, 68, 69, 70, 71] [61, 62, 63, 64, 65, 66, 67, 68, 69, 0, 1, 2, 3, 4, 5, 6, 7, 8, 9, 10, 11, 12, 13, 14, 15, 16, 17, 18, 70, 71, 19, 20, 21, 22, 23, 24, 25, 26, 27, 28, 29, 30, 31, 32, 33, 34, 35, 36, 37, 38, 39, 40, 41, 42, 43, 44, 45, 46, 47, 48, 49, 50, 51, 52, 53, 54, 55, 56, 57, 58, 59, 60] rfl rfl (by decide) (fun _ => rfl) rfl (Nat.le_of_ble_eq_true rfl) dL_law_517 (fun r_72 u9 h => ?_)
        obtain ⟨vg_73, vc_74⟩ := u9
        refine z_w (w' := w_law G a ab vg_73 vs vp vy ve vc_74 vu vt vi vj vk vh vm) rfl ?_
        refine z_aload_n F dL_law_520 rfl 2 rfl ?_
        refine z_aload_n F dL_law_521 rfl 0 rfl ?_
        refine z_iload_n F dL_law_522 rfl 3 rfl ?_
        refine z_iconst (v := 1) F dL_law_523 rfl ?_
        refine z_iadd F dL_law_524 ?_
        have h9 := h.1
        have h := h.2
        refine z_sld F X h9 dL_law_525 ?_
        refine z_aload_n F dL_law_526 rfl 0 rfl ?_
        refine z_iload_n F dL_law_527 rfl 3 rfl ?_
        refine z_iconst (v := 2) F dL_law_528 rfl ?_
        refine z_iadd F dL_law_529 ?_
        have h9 := h.1
        have h := h.2
        refine z_sld F X h9 dL_law_530 ?_
        refine z_aload_n F dL_law_531 rfl 0 rfl ?_
        refine z_iload_n F dL_law_532 rfl 3 rfl ?_
        refine z_iconst (v := 3) F dL_law_533 rfl ?_
        refine z_iadd F dL_law_534 ?_
        have h9 := h.1
        have h := h.2
        refine z_sld F X h9 dL_law_535 ?_
        refine z_aload_n F dL_law_536 rfl 0 rfl ?_
        refine z_iload_n F dL_law_537 rfl 3 rfl ?_
        refine z_iconst (v := 4) F dL_law_538 rfl ?_
        refine z_iadd F dL_law_539 ?_
        have h9 := h.1
        have h := h.2
        refine z_sld F X h9 dL_law_540 ?_
        refine z_callVi (fun u9 => w_law G a ab vg_73 vs vp vy ve vc_74 vu vt vi vj vk vh u9) F (mX7_make G ab vm (xs ((x3 + (1 : Int32))).toNatClampNeg) (xs ((x3 + (2 : Int32))).toNatClampNeg) (xs ((x3 + (3 : Int32))).toNatClampNeg) (xs ((x3 + (4 : Int32))).toNatClampNeg) _ h) gL_law_X7_make rfl hdX7_make ⟨rfl, rfl, Nat.le_of_ble_eq_true rfl, Nat.le_of_ble_eq_true rfl, Nat.le_of_ble_eq_true rfl, Nat.le_of_ble_eq_true rfl⟩ 55 rfl rfl [55, 56, 57, 58, 59, 60, 61, 62, 63, 64, 65, 66, 67, 68, 69, 70, 71] [0, 1, 2, 3, 4, 5, 6, 7, 8, 9, 10, 11, 12, 13, 14, 15, 16, 17, 18, 19, 20, 21, 22, 23, 24, 25, 26, 27, 28, 29, 30, 31, 32, 33, 34, 35, 36, 37, 38, 39, 40, 41, 42, 43, 44, 45, 46, 47, 48, 49, 50, 51, 52, 53, 54] [0, 1, 2, 3, 4, 5, 6, 7, 8, 9, 10, 11, 12, 13, 14, 15, 16, 17, 18, 19, 20, 21, 22, 23, 24, 25, 26, 27, 28, 29, 30, 31, 32, 33, 34, 35, 36, 37, 38, 39, 40, 41, 42, 43, 44, 45, 46, 47, 48, 49, 50, 51, 52, 53, 54, 55, 56, 57, 58, 59, 60, 61, 62, 63, 64, 65, 66, 67, 68, 69, 70, 71] rfl rfl (by decide) (fun _ => rfl) rfl (Nat.le_of_ble_eq_true rfl) dL_law_541 (fun r_75 vm_76 h => ?_)
        refine z_icmp_eq 1044 F dL_law_544 (by decide) (fun c9 => ?_) (fun c9 => ?_)
        · have h := h.1 c9
          exact z_lv [0, 1, 2, 3] rfl (t1044 K18 ih18 vg_73 vs vp vy ve vc_74 vu vt vi vj vk vh vm_76 x3 h)
        · have h := h.2 c9
          refine z_iconst (v := 0) F dL_law_547 rfl ?_
          exact hret (0 : Int32) (vg_73, vs, vp, vy, ve, vc_74, vu, vt, vi, vj, vk, vh, vm_76) _ _ h dL_law_548
      have h := h.2 c14
      by_cases c15 : ((xs (x3).toNatClampNeg) &&& (31 : Int32)) = 15
      · have h := h.1 c15
        refine z_tableIn (off := 516) 549 F dL_law_33 (by rw [c15] <;> decide) (by rw [c15] <;> decide) (by rw [c15] <;> decide) (by decide) ?_
        refine z_aload_n F dL_law_549 rfl 1 rfl ?_
        refine z_aload_n F dL_law_550 rfl 0 rfl ?_
        refine z_iload_n F dL_law_551 rfl 3 rfl ?_
        refine z_iconst (v := 1) F dL_law_552 rfl ?_
        refine z_iadd F dL_law_553 ?_
        have h9 := h.1
        have h := h.2
        refine z_sld F X h9 dL_law_554 ?_
        refine z_aload_n F dL_law_555 rfl 0 rfl ?_
        refine z_iload_n F dL_law_556 rfl 3 rfl ?_
        refine z_iconst (v := 2) F dL_law_557 rfl ?_
        refine z_iadd F dL_law_558 ?_
        have h9 := h.1
        have h := h.2
        refine z_sld F X h9 dL_law_559 ?_
        refine z_aload_n F dL_law_560 rfl 0 rfl ?_
        refine z_iload_n F dL_law_561 rfl 3 rfl ?_
        refine z_iconst (v := 3) F dL_law_562 rfl ?_
        refine z_iadd F dL_law_563 ?_
        have h9 := h.1
        have h := h.2
        refine z_sld F X h9 dL_law_564 ?_
        refine z_aload_n F dL_law_565 rfl 0 rfl ?_
        refine z_iload_n F dL_law_566 rfl 3 rfl ?_
        refine z_iconst (v := 4) F dL_law_567 rfl ?_
        refine z_iadd F dL_law_568 ?_
        have h9 := h.1
        have h := h.2
        refine z_sld F X h9 dL_law_569 ?_
        refine z_callVi (fun u9 => w_law G a ab u9.1 vs vp vy ve u9.2 vu vt vi vj vk vh vm) F (mX6_wish G a vg vc (xs ((x3 + (1 : Int32))).toNatClampNeg) (xs ((x3 + (2 : Int32))).toNatClampNeg) (xs ((x3 + (3 : Int32))).toNatClampNeg) (xs ((x3 + (4 : Int32))).toNatClampNeg) _ h) gL_law_X6_wish rfl hdX6_wish ⟨rfl, rfl, Nat.le_of_ble_eq_true rfl, Nat.le_of_ble_eq_true rfl, Nat.le_of_ble_eq_true rfl, Nat.le_of_ble_eq_true rfl⟩ 0 rfl rfl [0, 1, 2, 3, 4, 5, 6, 7, 8, 28, 29] [9, 10, 11, 12, 13, 14, 15, 16, 17, 18, 19, 20, 21, 22, 23, 24, 25, 26, 27, 30, 31, 32, 33, 34, 35, 36, 37, 38, 39, 40, 41, 42, 43, 44, 45, 46, 47, 48, 49, 50, 51, 52, 53, 54, 55, 56, 57, 58, 59, 60, 61, 62, 63, 64, 65, 66, 67, 68, 69, 70, 71] [61, 62, 63, 64, 65, 66, 67, 68, 69, 0, 1, 2, 3, 4, 5, 6, 7, 8, 9, 10, 11, 12, 13, 14, 15, 16, 17, 18, 70, 71, 19, 20, 21, 22, 23, 24, 25, 26, 27, 28, 29, 30, 31, 32, 33, 34, 35, 36, 37, 38, 39, 40, 41, 42, 43, 44, 45, 46, 47, 48, 49, 50, 51, 52, 53, 54, 55, 56, 57, 58, 59, 60] rfl rfl (by decide) (fun _ => rfl) rfl (Nat.le_of_ble_eq_true rfl) dL_law_570 (fun r_77 u9 h => ?_)
        obtain ⟨vg_78, vc_79⟩ := u9
        refine z_w (w' := w_law G a ab vg_78 vs vp vy ve vc_79 vu vt vi vj vk vh vm) rfl ?_
        refine z_aload_n F dL_law_573 rfl 2 rfl ?_
        refine z_aload_n F dL_law_574 rfl 0 rfl ?_
        refine z_iload_n F dL_law_575 rfl 3 rfl ?_
        refine z_iconst (v := 1) F dL_law_576 rfl ?_
        refine z_iadd F dL_law_577 ?_
        have h9 := h.1
        have h := h.2
        refine z_sld F X h9 dL_law_578 ?_
        refine z_aload_n F dL_law_579 rfl 0 rfl ?_
        refine z_iload_n F dL_law_580 rfl 3 rfl ?_
        refine z_iconst (v := 2) F dL_law_581 rfl ?_
        refine z_iadd F dL_law_582 ?_
        have h9 := h.1
        have h := h.2
        refine z_sld F X h9 dL_law_583 ?_
        refine z_aload_n F dL_law_584 rfl 0 rfl ?_
        refine z_iload_n F dL_law_585 rfl 3 rfl ?_
        refine z_iconst (v := 3) F dL_law_586 rfl ?_
        refine z_iadd F dL_law_587 ?_
        have h9 := h.1
        have h := h.2
        refine z_sld F X h9 dL_law_588 ?_
        refine z_aload_n F dL_law_589 rfl 0 rfl ?_
        refine z_iload_n F dL_law_590 rfl 3 rfl ?_
        refine z_iconst (v := 4) F dL_law_591 rfl ?_
        refine z_iadd F dL_law_592 ?_
        have h9 := h.1
        have h := h.2
        refine z_sld F X h9 dL_law_593 ?_
        refine z_callVi (fun u9 => w_law G a ab vg_78 vs vp vy ve vc_79 vu vt vi vj vk vh u9) F (mX7_wish G ab vm (xs ((x3 + (1 : Int32))).toNatClampNeg) (xs ((x3 + (2 : Int32))).toNatClampNeg) (xs ((x3 + (3 : Int32))).toNatClampNeg) (xs ((x3 + (4 : Int32))).toNatClampNeg) _ h) gL_law_X7_wish rfl hdX7_wish ⟨rfl, rfl, Nat.le_of_ble_eq_true rfl, Nat.le_of_ble_eq_true rfl, Nat.le_of_ble_eq_true rfl, Nat.le_of_ble_eq_true rfl⟩ 55 rfl rfl [55, 56, 57, 58, 59, 60, 61, 62, 63, 64, 65, 66, 67, 68, 69, 70, 71] [0, 1, 2, 3, 4, 5, 6, 7, 8, 9, 10, 11, 12, 13, 14, 15, 16, 17, 18, 19, 20, 21, 22, 23, 24, 25, 26, 27, 28, 29, 30, 31, 32, 33, 34, 35, 36, 37, 38, 39, 40, 41, 42, 43, 44, 45, 46, 47, 48, 49, 50, 51, 52, 53, 54] [0, 1, 2, 3, 4, 5, 6, 7, 8, 9, 10, 11, 12, 13, 14, 15, 16, 17, 18, 19, 20, 21, 22, 23, 24, 25, 26, 27, 28, 29, 30, 31, 32, 33, 34, 35, 36, 37, 38, 39, 40, 41, 42, 43, 44, 45, 46, 47, 48, 49, 50, 51, 52, 53, 54, 55, 56, 57, 58, 59, 60, 61, 62, 63, 64, 65, 66, 67, 68, 69, 70, 71] rfl rfl (by decide) (fun _ => rfl) rfl (Nat.le_of_ble_eq_true rfl) dL_law_594 (fun r_80 vm_81 h => ?_)
        refine z_icmp_eq 1044 F dL_law_597 (by decide) (fun c9 => ?_) (fun c9 => ?_)
        · have h := h.1 c9
          exact z_lv [0, 1, 2, 3] rfl (t1044 K18 ih18 vg_78 vs vp vy ve vc_79 vu vt vi vj vk vh vm_81 x3 h)
        · have h := h.2 c9
          refine z_iconst (v := 0) F dL_law_600 rfl ?_
          exact hret (0 : Int32) (vg_78, vs, vp, vy, ve, vc_79, vu, vt, vi, vj, vk, vh, vm_81) _ _ h dL_law_601
      have h := h.2 c15
      by_cases c16 : ((xs (x3).toNatClampNeg) &&& (31 : Int32)) = 16
      · have h := h.1 c16
        refine z_tableIn (off := 569) 602 F dL_law_33 (by rw [c16] <;> decide) (by rw [c16] <;> decide) (by rw [c16] <;> decide) (by decide) ?_
        refine z_aload_n F dL_law_602 rfl 1 rfl ?_
        refine z_aload_n F dL_law_603 rfl 0 rfl ?_
        refine z_iload_n F dL_law_604 rfl 3 rfl ?_
        refine z_iconst (v := 1) F dL_law_605 rfl ?_
        refine z_iadd F dL_law_606 ?_
        have h9 := h.1
        have h := h.2
        refine z_sld F X h9 dL_law_607 ?_
        refine z_aload_n F dL_law_608 rfl 0 rfl ?_
        refine z_iload_n F dL_law_609 rfl 3 rfl ?_
        refine z_iconst (v := 2) F dL_law_610 rfl ?_
        refine z_iadd F dL_law_611 ?_
        have h9 := h.1
        have h := h.2
        refine z_sld F X h9 dL_law_612 ?_
        refine z_aload_n F dL_law_613 rfl 0 rfl ?_
        refine z_iload_n F dL_law_614 rfl 3 rfl ?_
        refine z_iconst (v := 3) F dL_law_615 rfl ?_
        refine z_iadd F dL_law_616 ?_
        have h9 := h.1
        have h := h.2
        refine z_sld F X h9 dL_law_617 ?_
        refine z_callVi (fun u9 => w_law G a ab u9.1 u9.2.1 vp vy ve u9.2.2 vu vt vi vj vk vh vm) F (mX6_whiten G a vg vs vc (xs ((x3 + (1 : Int32))).toNatClampNeg) (xs ((x3 + (2 : Int32))).toNatClampNeg) (xs ((x3 + (3 : Int32))).toNatClampNeg) _ h) gL_law_X6_whiten rfl hdX6_whiten ⟨rfl, rfl, Nat.le_of_ble_eq_true rfl, Nat.le_of_ble_eq_true rfl, Nat.le_of_ble_eq_true rfl, Nat.le_of_ble_eq_true rfl⟩ 0 rfl rfl [0, 1, 2, 3, 4, 5, 6, 7, 8, 9, 10, 11, 12, 13, 14, 15, 16, 28, 29] [17, 18, 19, 20, 21, 22, 23, 24, 25, 26, 27, 30, 31, 32, 33, 34, 35, 36, 37, 38, 39, 40, 41, 42, 43, 44, 45, 46, 47, 48, 49, 50, 51, 52, 53, 54, 55, 56, 57, 58, 59, 60, 61, 62, 63, 64, 65, 66, 67, 68, 69, 70, 71] [53, 54, 55, 56, 57, 58, 59, 60, 61, 62, 63, 64, 65, 66, 67, 68, 69, 0, 1, 2, 3, 4, 5, 6, 7, 8, 9, 10, 70, 71, 11, 12, 13, 14, 15, 16, 17, 18, 19, 20, 21, 22, 23, 24, 25, 26, 27, 28, 29, 30, 31, 32, 33, 34, 35, 36, 37, 38, 39, 40, 41, 42, 43, 44, 45, 46, 47, 48, 49, 50, 51, 52] rfl rfl (by decide) (fun _ => rfl) rfl (Nat.le_of_ble_eq_true rfl) dL_law_618 (fun r_82 u9 h => ?_)
        obtain ⟨vg_83, vs_84, vc_85⟩ := u9
        refine z_w (w' := w_law G a ab vg_83 vs_84 vp vy ve vc_85 vu vt vi vj vk vh vm) rfl ?_
        refine z_aload_n F dL_law_621 rfl 2 rfl ?_
        refine z_aload_n F dL_law_622 rfl 0 rfl ?_
        refine z_iload_n F dL_law_623 rfl 3 rfl ?_
        refine z_iconst (v := 1) F dL_law_624 rfl ?_
        refine z_iadd F dL_law_625 ?_
        have h9 := h.1
        have h := h.2
        refine z_sld F X h9 dL_law_626 ?_
        refine z_aload_n F dL_law_627 rfl 0 rfl ?_
        refine z_iload_n F dL_law_628 rfl 3 rfl ?_
        refine z_iconst (v := 2) F dL_law_629 rfl ?_
        refine z_iadd F dL_law_630 ?_
        have h9 := h.1
        have h := h.2
        refine z_sld F X h9 dL_law_631 ?_
        refine z_aload_n F dL_law_632 rfl 0 rfl ?_
        refine z_iload_n F dL_law_633 rfl 3 rfl ?_
        refine z_iconst (v := 3) F dL_law_634 rfl ?_
        refine z_iadd F dL_law_635 ?_
        have h9 := h.1
        have h := h.2
        refine z_sld F X h9 dL_law_636 ?_
        refine z_callVi (fun u9 => w_law G a ab vg_83 vs_84 vp vy ve vc_85 vu vt vi vj vk vh u9) F (mX7_whiten G ab vm (xs ((x3 + (1 : Int32))).toNatClampNeg) (xs ((x3 + (2 : Int32))).toNatClampNeg) (xs ((x3 + (3 : Int32))).toNatClampNeg) _ h) gL_law_X7_whiten rfl hdX7_whiten ⟨rfl, rfl, Nat.le_of_ble_eq_true rfl, Nat.le_of_ble_eq_true rfl, Nat.le_of_ble_eq_true rfl, Nat.le_of_ble_eq_true rfl⟩ 55 rfl rfl [55, 56, 57, 58, 59, 60, 61, 62, 63, 64, 65, 66, 67, 68, 69, 70, 71] [0, 1, 2, 3, 4, 5, 6, 7, 8, 9, 10, 11, 12, 13, 14, 15, 16, 17, 18, 19, 20, 21, 22, 23, 24, 25, 26, 27, 28, 29, 30, 31, 32, 33, 34, 35, 36, 37, 38, 39, 40, 41, 42, 43, 44, 45, 46, 47, 48, 49, 50, 51, 52, 53, 54] [0, 1, 2, 3, 4, 5, 6, 7, 8, 9, 10, 11, 12, 13, 14, 15, 16, 17, 18, 19, 20, 21, 22, 23, 24, 25, 26, 27, 28, 29, 30, 31, 32, 33, 34, 35, 36, 37, 38, 39, 40, 41, 42, 43, 44, 45, 46, 47, 48, 49, 50, 51, 52, 53, 54, 55, 56, 57, 58, 59, 60, 61, 62, 63, 64, 65, 66, 67, 68, 69, 70, 71] rfl rfl (by decide) (fun _ => rfl) rfl (Nat.le_of_ble_eq_true rfl) dL_law_637 (fun r_86 vm_87 h => ?_)
        refine z_icmp_eq 1044 F dL_law_640 (by decide) (fun c9 => ?_) (fun c9 => ?_)
        · have h := h.1 c9
          exact z_lv [0, 1, 2, 3] rfl (t1044 K18 ih18 vg_83 vs_84 vp vy ve vc_85 vu vt vi vj vk vh vm_87 x3 h)
        · have h := h.2 c9
          refine z_iconst (v := 0) F dL_law_643 rfl ?_
          exact hret (0 : Int32) (vg_83, vs_84, vp, vy, ve, vc_85, vu, vt, vi, vj, vk, vh, vm_87) _ _ h dL_law_644
      have h := h.2 c16
      by_cases c17 : ((xs (x3).toNatClampNeg) &&& (31 : Int32)) = 17
      · have h := h.1 c17
        refine z_tableIn (off := 612) 645 F dL_law_33 (by rw [c17] <;> decide) (by rw [c17] <;> decide) (by rw [c17] <;> decide) (by decide) ?_
        refine z_aload_n F dL_law_645 rfl 1 rfl ?_
        refine z_aload_n F dL_law_646 rfl 0 rfl ?_
        refine z_iload_n F dL_law_647 rfl 3 rfl ?_
        refine z_iconst (v := 1) F dL_law_648 rfl ?_
        refine z_iadd F dL_law_649 ?_
        have h9 := h.1
        have h := h.2
        refine z_sld F X h9 dL_law_650 ?_
        refine z_aload_n F dL_law_651 rfl 0 rfl ?_
        refine z_iload_n F dL_law_652 rfl 3 rfl ?_
        refine z_iconst (v := 2) F dL_law_653 rfl ?_
        refine z_iadd F dL_law_654 ?_
        have h9 := h.1
        have h := h.2
        refine z_sld F X h9 dL_law_655 ?_
        refine z_aload_n F dL_law_656 rfl 0 rfl ?_
        refine z_iload_n F dL_law_657 rfl 3 rfl ?_
        refine z_iconst (v := 3) F dL_law_658 rfl ?_
        refine z_iadd F dL_law_659 ?_
        have h9 := h.1
        have h := h.2
        refine z_sld F X h9 dL_law_660 ?_
        refine z_callVi (fun u9 => w_law G a ab u9.1 vs vp vy ve u9.2.1 vu vt vi vj vk u9.2.2 vm) F (mX6_apart G a vg vc vh (xs ((x3 + (1 : Int32))).toNatClampNeg) (xs ((x3 + (2 : Int32))).toNatClampNeg) (xs ((x3 + (3 : Int32))).toNatClampNeg) _ h) gL_law_X6_apart rfl hdX6_apart ⟨rfl, rfl, Nat.le_of_ble_eq_true rfl, Nat.le_of_ble_eq_true rfl, Nat.le_of_ble_eq_true rfl, Nat.le_of_ble_eq_true rfl⟩ 0 rfl rfl [0, 1, 2, 3, 4, 5, 6, 7, 8, 28, 29, 54] [9, 10, 11, 12, 13, 14, 15, 16, 17, 18, 19, 20, 21, 22, 23, 24, 25, 26, 27, 30, 31, 32, 33, 34, 35, 36, 37, 38, 39, 40, 41, 42, 43, 44, 45, 46, 47, 48, 49, 50, 51, 52, 53, 55, 56, 57, 58, 59, 60, 61, 62, 63, 64, 65, 66, 67, 68, 69, 70, 71] [60, 61, 62, 63, 64, 65, 66, 67, 68, 0, 1, 2, 3, 4, 5, 6, 7, 8, 9, 10, 11, 12, 13, 14, 15, 16, 17, 18, 69, 70, 19, 20, 21, 22, 23, 24, 25, 26, 27, 28, 29, 30, 31, 32, 33, 34, 35, 36, 37, 38, 39, 40, 41, 42, 71, 43, 44, 45, 46, 47, 48, 49, 50, 51, 52, 53, 54, 55, 56, 57, 58, 59] rfl rfl (by decide) (fun _ => rfl) rfl (Nat.le_of_ble_eq_true rfl) dL_law_661 (fun r_88 u9 h => ?_)
        obtain ⟨vg_89, vc_90, vh_91⟩ := u9
        refine z_w (w' := w_law G a ab vg_89 vs vp vy ve vc_90 vu vt vi vj vk vh_91 vm) rfl ?_
        refine z_aload_n F dL_law_664 rfl 2 rfl ?_
        refine z_aload_n F dL_law_665 rfl 0 rfl ?_
        refine z_iload_n F dL_law_666 rfl 3 rfl ?_
        refine z_iconst (v := 1) F dL_law_667 rfl ?_
        refine z_iadd F dL_law_668 ?_
        have h9 := h.1
        have h := h.2
        refine z_sld F X h9 dL_law_669 ?_
        refine z_aload_n F dL_law_670 rfl 0 rfl ?_
        refine z_iload_n F dL_law_671 rfl 3 rfl ?_
        refine z_iconst (v := 2) F dL_law_672 rfl ?_
        refine z_iadd F dL_law_673 ?_
        have h9 := h.1
        have h := h.2
        refine z_sld F X h9 dL_law_674 ?_
        refine z_aload_n F dL_law_675 rfl 0 rfl ?_
        refine z_iload_n F dL_law_676 rfl 3 rfl ?_
        refine z_iconst (v := 3) F dL_law_677 rfl ?_
        refine z_iadd F dL_law_678 ?_
        have h9 := h.1
        have h := h.2
        refine z_sld F X h9 dL_law_679 ?_
        refine z_callVi (fun u9 => w_law G a ab vg_89 vs vp vy ve vc_90 vu vt vi vj vk vh_91 u9) F (mX7_apart G ab vm (xs ((x3 + (1 : Int32))).toNatClampNeg) (xs ((x3 + (2 : Int32))).toNatClampNeg) (xs ((x3 + (3 : Int32))).toNatClampNeg) _ h) gL_law_X7_apart rfl hdX7_apart ⟨rfl, rfl, Nat.le_of_ble_eq_true rfl, Nat.le_of_ble_eq_true rfl, Nat.le_of_ble_eq_true rfl, Nat.le_of_ble_eq_true rfl⟩ 55 rfl rfl [55, 56, 57, 58, 59, 60, 61, 62, 63, 64, 65, 66, 67, 68, 69, 70, 71] [0, 1, 2, 3, 4, 5, 6, 7, 8, 9, 10, 11, 12, 13, 14, 15, 16, 17, 18, 19, 20, 21, 22, 23, 24, 25, 26, 27, 28, 29, 30, 31, 32, 33, 34, 35, 36, 37, 38, 39, 40, 41, 42, 43, 44, 45, 46, 47, 48, 49, 50, 51, 52, 53, 54] [0, 1, 2, 3, 4, 5, 6, 7, 8, 9, 10, 11, 12, 13, 14, 15, 16, 17, 18, 19, 20, 21, 22, 23, 24, 25, 26, 27, 28, 29, 30, 31, 32, 33, 34, 35, 36, 37, 38, 39, 40, 41, 42, 43, 44, 45, 46, 47, 48, 49, 50, 51, 52, 53, 54, 55, 56, 57, 58, 59, 60, 61, 62, 63, 64, 65, 66, 67, 68, 69, 70, 71] rfl rfl (by decide) (fun _ => rfl) rfl (Nat.le_of_ble_eq_true rfl) dL_law_680 (fun r_92 vm_93 h => ?_)
        refine z_icmp_eq 1044 F dL_law_683 (by decide) (fun c9 => ?_) (fun c9 => ?_)
        · have h := h.1 c9
          exact z_lv [0, 1, 2, 3] rfl (t1044 K18 ih18 vg_89 vs vp vy ve vc_90 vu vt vi vj vk vh_91 vm_93 x3 h)
        · have h := h.2 c9
          refine z_iconst (v := 0) F dL_law_686 rfl ?_
          exact hret (0 : Int32) (vg_89, vs, vp, vy, ve, vc_90, vu, vt, vi, vj, vk, vh_91, vm_93) _ _ h dL_law_687
      have h := h.2 c17
      by_cases c18 : ((xs (x3).toNatClampNeg) &&& (31 : Int32)) = 18
      · have h := h.1 c18
        refine z_tableIn (off := 655) 688 F dL_law_33 (by rw [c18] <;> decide) (by rw [c18] <;> decide) (by rw [c18] <;> decide) (by decide) ?_
        refine z_aload_n F dL_law_688 rfl 1 rfl ?_
        refine z_aload_n F dL_law_689 rfl 0 rfl ?_
        refine z_iload_n F dL_law_690 rfl 3 rfl ?_
        refine z_iconst (v := 1) F dL_law_691 rfl ?_
        refine z_iadd F dL_law_692 ?_
        have h9 := h.1
        have h := h.2
        refine z_sld F X h9 dL_law_693 ?_
        refine z_aload_n F dL_law_694 rfl 0 rfl ?_
        refine z_iload_n F dL_law_695 rfl 3 rfl ?_
        refine z_iconst (v := 2) F dL_law_696 rfl ?_
        refine z_iadd F dL_law_697 ?_
        have h9 := h.1
        have h := h.2
        refine z_sld F X h9 dL_law_698 ?_
        refine z_aload_n F dL_law_699 rfl 0 rfl ?_
        refine z_iload_n F dL_law_700 rfl 3 rfl ?_
        refine z_iconst (v := 3) F dL_law_701 rfl ?_
        refine z_iadd F dL_law_702 ?_
        have h9 := h.1
        have h := h.2
        refine z_sld F X h9 dL_law_703 ?_
        refine z_callVi (fun u9 => w_law G a ab u9.1 vs vp vy ve u9.2 vu vt vi vj vk vh vm) F (mX6_spoil G a vg vc (xs ((x3 + (1 : Int32))).toNatClampNeg) (xs ((x3 + (2 : Int32))).toNatClampNeg) (xs ((x3 + (3 : Int32))).toNatClampNeg) _ h) gL_law_X6_spoil rfl hdX6_spoil ⟨rfl, rfl, Nat.le_of_ble_eq_true rfl, Nat.le_of_ble_eq_true rfl, Nat.le_of_ble_eq_true rfl, Nat.le_of_ble_eq_true rfl⟩ 0 rfl rfl [0, 1, 2, 3, 4, 5, 6, 7, 8, 28, 29] [9, 10, 11, 12, 13, 14, 15, 16, 17, 18, 19, 20, 21, 22, 23, 24, 25, 26, 27, 30, 31, 32, 33, 34, 35, 36, 37, 38, 39, 40, 41, 42, 43, 44, 45, 46, 47, 48, 49, 50, 51, 52, 53, 54, 55, 56, 57, 58, 59, 60, 61, 62, 63, 64, 65, 66, 67, 68, 69, 70, 71] [61, 62, 63, 64, 65, 66, 67, 68, 69, 0, 1, 2, 3, 4, 5, 6, 7, 8, 9, 10, 11, 12, 13, 14, 15, 16, 17, 18, 70, 71, 19, 20, 21, 22, 23, 24, 25, 26, 27, 28, 29, 30, 31, 32, 33, 34, 35, 36, 37, 38, 39, 40, 41, 42, 43, 44, 45, 46, 47, 48, 49, 50, 51, 52, 53, 54, 55, 56, 57, 58, 59, 60] rfl rfl (by decide) (fun _ => rfl) rfl (Nat.le_of_ble_eq_true rfl) dL_law_704 (fun r_94 u9 h => ?_)
        obtain ⟨vg_95, vc_96⟩ := u9
        refine z_w (w' := w_law G a ab vg_95 vs vp vy ve vc_96 vu vt vi vj vk vh vm) rfl ?_
        refine z_aload_n F dL_law_707 rfl 2 rfl ?_
        refine z_aload_n F dL_law_708 rfl 0 rfl ?_
        refine z_iload_n F dL_law_709 rfl 3 rfl ?_
        refine z_iconst (v := 1) F dL_law_710 rfl ?_
        refine z_iadd F dL_law_711 ?_
        have h9 := h.1
        have h := h.2
        refine z_sld F X h9 dL_law_712 ?_
        refine z_aload_n F dL_law_713 rfl 0 rfl ?_
        refine z_iload_n F dL_law_714 rfl 3 rfl ?_
        refine z_iconst (v := 2) F dL_law_715 rfl ?_
        refine z_iadd F dL_law_716 ?_
        have h9 := h.1
        have h := h.2
        refine z_sld F X h9 dL_law_717 ?_
        refine z_aload_n F dL_law_718 rfl 0 rfl ?_
        refine z_iload_n F dL_law_719 rfl 3 rfl ?_
        refine z_iconst (v := 3) F dL_law_720 rfl ?_
        refine z_iadd F dL_law_721 ?_
        have h9 := h.1
        have h := h.2
        refine z_sld F X h9 dL_law_722 ?_
        refine z_callVi (fun u9 => w_law G a ab vg_95 vs vp vy ve vc_96 vu vt vi vj vk vh u9) F (mX7_spoil G ab vm (xs ((x3 + (1 : Int32))).toNatClampNeg) (xs ((x3 + (2 : Int32))).toNatClampNeg) (xs ((x3 + (3 : Int32))).toNatClampNeg) _ h) gL_law_X7_spoil rfl hdX7_spoil ⟨rfl, rfl, Nat.le_of_ble_eq_true rfl, Nat.le_of_ble_eq_true rfl, Nat.le_of_ble_eq_true rfl, Nat.le_of_ble_eq_true rfl⟩ 55 rfl rfl [55, 56, 57, 58, 59, 60, 61, 62, 63, 64, 65, 66, 67, 68, 69, 70, 71] [0, 1, 2, 3, 4, 5, 6, 7, 8, 9, 10, 11, 12, 13, 14, 15, 16, 17, 18, 19, 20, 21, 22, 23, 24, 25, 26, 27, 28, 29, 30, 31, 32, 33, 34, 35, 36, 37, 38, 39, 40, 41, 42, 43, 44, 45, 46, 47, 48, 49, 50, 51, 52, 53, 54] [0, 1, 2, 3, 4, 5, 6, 7, 8, 9, 10, 11, 12, 13, 14, 15, 16, 17, 18, 19, 20, 21, 22, 23, 24, 25, 26, 27, 28, 29, 30, 31, 32, 33, 34, 35, 36, 37, 38, 39, 40, 41, 42, 43, 44, 45, 46, 47, 48, 49, 50, 51, 52, 53, 54, 55, 56, 57, 58, 59, 60, 61, 62, 63, 64, 65, 66, 67, 68, 69, 70, 71] rfl rfl (by decide) (fun _ => rfl) rfl (Nat.le_of_ble_eq_true rfl) dL_law_723 (fun r_97 vm_98 h => ?_)
        refine z_icmp_eq 1044 F dL_law_726 (by decide) (fun c9 => ?_) (fun c9 => ?_)
        · have h := h.1 c9
          exact z_lv [0, 1, 2, 3] rfl (t1044 K18 ih18 vg_95 vs vp vy ve vc_96 vu vt vi vj vk vh vm_98 x3 h)
        · have h := h.2 c9
          refine z_iconst (v := 0) F dL_law_729 rfl ?_
          exact hret (0 : Int32) (vg_95, vs, vp, vy, ve, vc_96, vu, vt, vi, vj, vk, vh, vm_98) _ _ h dL_law_730
      have h := h.2 c18
      by_cases c19 : ((xs (x3).toNatClampNeg) &&& (31 : Int32)) = 19
      · have h := h.1 c19
        refine z_tableIn (off := 698) 731 F dL_law_33 (by rw [c19] <;> decide) (by rw [c19] <;> decide) (by rw [c19] <;> decide) (by decide) ?_
        refine z_aload_n F dL_law_731 rfl 1 rfl ?_
        refine z_aload_n F dL_law_732 rfl 0 rfl ?_
        refine z_iload_n F dL_law_733 rfl 3 rfl ?_
        refine z_iconst (v := 1) F dL_law_734 rfl ?_
        refine z_iadd F dL_law_735 ?_
        have h9 := h.1
        have h := h.2
        refine z_sld F X h9 dL_law_736 ?_
        refine z_aload_n F dL_law_737 rfl 0 rfl ?_
        refine z_iload_n F dL_law_738 rfl 3 rfl ?_
        refine z_iconst (v := 2) F dL_law_739 rfl ?_
        refine z_iadd F dL_law_740 ?_
        have h9 := h.1
        have h := h.2
        refine z_sld F X h9 dL_law_741 ?_
        refine z_callVi (fun u9 => w_law G a ab u9 vs vp vy ve vc vu vt vi vj vk vh vm) F (mX6_seen G a vg (xs ((x3 + (1 : Int32))).toNatClampNeg) (xs ((x3 + (2 : Int32))).toNatClampNeg) _ h) gL_law_X6_seen rfl hdX6_seen ⟨rfl, rfl, Nat.le_of_ble_eq_true rfl, Nat.le_of_ble_eq_true rfl, Nat.le_of_ble_eq_true rfl, Nat.le_of_ble_eq_true rfl⟩ 0 rfl rfl [0, 1, 2, 3, 4, 5, 6, 7, 8] [9, 10, 11, 12, 13, 14, 15, 16, 17, 18, 19, 20, 21, 22, 23, 24, 25, 26, 27, 28, 29, 30, 31, 32, 33, 34, 35, 36, 37, 38, 39, 40, 41, 42, 43, 44, 45, 46, 47, 48, 49, 50, 51, 52, 53, 54, 55, 56, 57, 58, 59, 60, 61, 62, 63, 64, 65, 66, 67, 68, 69, 70, 71] [63, 64, 65, 66, 67, 68, 69, 70, 71, 0, 1, 2, 3, 4, 5, 6, 7, 8, 9, 10, 11, 12, 13, 14, 15, 16, 17, 18, 19, 20, 21, 22, 23, 24, 25, 26, 27, 28, 29, 30, 31, 32, 33, 34, 35, 36, 37, 38, 39, 40, 41, 42, 43, 44, 45, 46, 47, 48, 49, 50, 51, 52, 53, 54, 55, 56, 57, 58, 59, 60, 61, 62] rfl rfl (by decide) (fun _ => rfl) rfl (Nat.le_of_ble_eq_true rfl) dL_law_742 (fun r_99 vg_100 h => ?_)
        refine z_aload_n F dL_law_745 rfl 2 rfl ?_
        refine z_aload_n F dL_law_746 rfl 0 rfl ?_
        refine z_iload_n F dL_law_747 rfl 3 rfl ?_
        refine z_iconst (v := 1) F dL_law_748 rfl ?_
        refine z_iadd F dL_law_749 ?_
        have h9 := h.1
        have h := h.2
        refine z_sld F X h9 dL_law_750 ?_
        refine z_aload_n F dL_law_751 rfl 0 rfl ?_
        refine z_iload_n F dL_law_752 rfl 3 rfl ?_
        refine z_iconst (v := 2) F dL_law_753 rfl ?_
        refine z_iadd F dL_law_754 ?_
        have h9 := h.1
        have h := h.2
        refine z_sld F X h9 dL_law_755 ?_
        refine z_callVi (fun u9 => w_law G a ab vg_100 vs vp vy ve vc vu vt vi vj vk vh u9) F (mX7_seen G ab vm (xs ((x3 + (1 : Int32))).toNatClampNeg) (xs ((x3 + (2 : Int32))).toNatClampNeg) _ h) gL_law_X7_seen rfl hdX7_seen ⟨rfl, rfl, Nat.le_of_ble_eq_true rfl, Nat.le_of_ble_eq_true rfl, Nat.le_of_ble_eq_true rfl, Nat.le_of_ble_eq_true rfl⟩ 55 rfl rfl [55, 56, 57, 58, 59, 60, 61, 62, 63, 64, 65, 66, 67, 68, 69, 70, 71] [0, 1, 2, 3, 4, 5, 6, 7, 8, 9, 10, 11, 12, 13, 14, 15, 16, 17, 18, 19, 20, 21, 22, 23, 24, 25, 26, 27, 28, 29, 30, 31, 32, 33, 34, 35, 36, 37, 38, 39, 40, 41, 42, 43, 44, 45, 46, 47, 48, 49, 50, 51, 52, 53, 54] [0, 1, 2, 3, 4, 5, 6, 7, 8, 9, 10, 11, 12, 13, 14, 15, 16, 17, 18, 19, 20, 21, 22, 23, 24, 25, 26, 27, 28, 29, 30, 31, 32, 33, 34, 35, 36, 37, 38, 39, 40, 41, 42, 43, 44, 45, 46, 47, 48, 49, 50, 51, 52, 53, 54, 55, 56, 57, 58, 59, 60, 61, 62, 63, 64, 65, 66, 67, 68, 69, 70, 71] rfl rfl (by decide) (fun _ => rfl) rfl (Nat.le_of_ble_eq_true rfl) dL_law_756 (fun r_101 vm_102 h => ?_)
        refine z_icmp_eq 1044 F dL_law_759 (by decide) (fun c9 => ?_) (fun c9 => ?_)
        · have h := h.1 c9
          exact z_lv [0, 1, 2, 3] rfl (t1044 K18 ih18 vg_100 vs vp vy ve vc vu vt vi vj vk vh vm_102 x3 h)
        · have h := h.2 c9
          refine z_iconst (v := 0) F dL_law_762 rfl ?_
          exact hret (0 : Int32) (vg_100, vs, vp, vy, ve, vc, vu, vt, vi, vj, vk, vh, vm_102) _ _ h dL_law_763
      have h := h.2 c19
      by_cases c20 : ((xs (x3).toNatClampNeg) &&& (31 : Int32)) = 20
      · have h := h.1 c20
        refine z_tableIn (off := 731) 764 F dL_law_33 (by rw [c20] <;> decide) (by rw [c20] <;> decide) (by rw [c20] <;> decide) (by decide) ?_
        refine z_aload_n F dL_law_764 rfl 1 rfl ?_
        refine z_callVi (fun u9 => w_law G a ab u9 vs vp vy ve vc vu vt vi vj vk vh vm) F (mX6_forget G a vg _ h) gL_law_X6_forget rfl hdX6_forget ⟨rfl, rfl, Nat.le_of_ble_eq_true rfl, Nat.le_of_ble_eq_true rfl, Nat.le_of_ble_eq_true rfl, Nat.le_of_ble_eq_true rfl⟩ 0 rfl rfl [0, 1, 2, 3, 4, 5, 6, 7, 8] [9, 10, 11, 12, 13, 14, 15, 16, 17, 18, 19, 20, 21, 22, 23, 24, 25, 26, 27, 28, 29, 30, 31, 32, 33, 34, 35, 36, 37, 38, 39, 40, 41, 42, 43, 44, 45, 46, 47, 48, 49, 50, 51, 52, 53, 54, 55, 56, 57, 58, 59, 60, 61, 62, 63, 64, 65, 66, 67, 68, 69, 70, 71] [63, 64, 65, 66, 67, 68, 69, 70, 71, 0, 1, 2, 3, 4, 5, 6, 7, 8, 9, 10, 11, 12, 13, 14, 15, 16, 17, 18, 19, 20, 21, 22, 23, 24, 25, 26, 27, 28, 29, 30, 31, 32, 33, 34, 35, 36, 37, 38, 39, 40, 41, 42, 43, 44, 45, 46, 47, 48, 49, 50, 51, 52, 53, 54, 55, 56, 57, 58, 59, 60, 61, 62] rfl rfl (by decide) (fun _ => rfl) rfl (Nat.le_of_ble_eq_true rfl) dL_law_765 (fun r_103 vg_104 h => ?_)
        refine z_aload_n F dL_law_768 rfl 2 rfl ?_
        refine z_callVi (fun u9 => w_law G a ab vg_104 vs vp vy ve vc vu vt vi vj vk vh u9) F (mX7_forget G ab vm _ h) gL_law_X7_forget rfl hdX7_forget ⟨rfl, rfl, Nat.le_of_ble_eq_true rfl, Nat.le_of_ble_eq_true rfl, Nat.le_of_ble_eq_true rfl, Nat.le_of_ble_eq_true rfl⟩ 55 rfl rfl [55, 56, 57, 58, 59, 60, 61, 62, 63, 64, 65, 66, 67, 68, 69, 70, 71] [0, 1, 2, 3, 4, 5, 6, 7, 8, 9, 10, 11, 12, 13, 14, 15, 16, 17, 18, 19, 20, 21, 22, 23, 24, 25, 26, 27, 28, 29, 30, 31, 32, 33, 34, 35, 36, 37, 38, 39, 40, 41, 42, 43, 44, 45, 46, 47, 48, 49, 50, 51, 52, 53, 54] [0, 1, 2, 3, 4, 5, 6, 7, 8, 9, 10, 11, 12, 13, 14, 15, 16, 17, 18, 19, 20, 21, 22, 23, 24, 25, 26, 27, 28, 29, 30, 31, 32, 33, 34, 35, 36, 37, 38, 39, 40, 41, 42, 43, 44, 45, 46, 47, 48, 49, 50, 51, 52, 53, 54, 55, 56, 57, 58, 59, 60, 61, 62, 63, 64, 65, 66, 67, 68, 69, 70, 71] rfl rfl (by decide) (fun _ => rfl) rfl (Nat.le_of_ble_eq_true rfl) dL_law_769 (fun r_105 vm_106 h => ?_)
        refine z_icmp_eq 1044 F dL_law_772 (by decide) (fun c9 => ?_) (fun c9 => ?_)
        · have h := h.1 c9
          exact z_lv [0, 1, 2, 3] rfl (t1044 K18 ih18 vg_104 vs vp vy ve vc vu vt vi vj vk vh vm_106 x3 h)
        · have h := h.2 c9
          refine z_iconst (v := 0) F dL_law_775 rfl ?_
          exact hret (0 : Int32) (vg_104, vs, vp, vy, ve, vc, vu, vt, vi, vj, vk, vh, vm_106) _ _ h dL_law_776
      have h := h.2 c20
      by_cases c21 : ((xs (x3).toNatClampNeg) &&& (31 : Int32)) = 21
      · have h := h.1 c21
        refine z_tableIn (off := 744) 777 F dL_law_33 (by rw [c21] <;> decide) (by rw [c21] <;> decide) (by rw [c21] <;> decide) (by decide) ?_
        refine z_aload_n F dL_law_777 rfl 1 rfl ?_
        refine z_aload_n F dL_law_778 rfl 0 rfl ?_
        refine z_iload_n F dL_law_779 rfl 3 rfl ?_
        refine z_iconst (v := 1) F dL_law_780 rfl ?_
        refine z_iadd F dL_law_781 ?_
        have h9 := h.1
        have h := h.2
        refine z_sld F X h9 dL_law_782 ?_
        refine z_callVi (fun u9 => w_law G a ab u9.1 vs vp vy ve u9.2.1 u9.2.2 vt vi vj vk vh vm) F (mX6_shown G a vg vc vu (xs ((x3 + (1 : Int32))).toNatClampNeg) _ h) gL_law_X6_shown rfl hdX6_shown ⟨rfl, rfl, Nat.le_of_ble_eq_true rfl, Nat.le_of_ble_eq_true rfl, Nat.le_of_ble_eq_true rfl, Nat.le_of_ble_eq_true rfl⟩ 0 rfl rfl [0, 1, 2, 3, 4, 5, 6, 7, 8, 28, 29, 30, 31, 32, 33] [9, 10, 11, 12, 13, 14, 15, 16, 17, 18, 19, 20, 21, 22, 23, 24, 25, 26, 27, 34, 35, 36, 37, 38, 39, 40, 41, 42, 43, 44, 45, 46, 47, 48, 49, 50, 51, 52, 53, 54, 55, 56, 57, 58, 59, 60, 61, 62, 63, 64, 65, 66, 67, 68, 69, 70, 71] [57, 58, 59, 60, 61, 62, 63, 64, 65, 0, 1, 2, 3, 4, 5, 6, 7, 8, 9, 10, 11, 12, 13, 14, 15, 16, 17, 18, 66, 67, 68, 69, 70, 71, 19, 20, 21, 22, 23, 24, 25, 26, 27, 28, 29, 30, 31, 32, 33, 34, 35, 36, 37, 38, 39, 40, 41, 42, 43, 44, 45, 46, 47, 48, 49, 50, 51, 52, 53, 54, 55, 56] rfl rfl (by decide) (fun _ => rfl) rfl (Nat.le_of_ble_eq_true rfl) dL_law_783 (fun r_107 u9 h => ?_)
        obtain ⟨vg_108, vc_109, vu_110⟩ := u9
        refine z_w (w' := w_law G a ab vg_108 vs vp vy ve vc_109 vu_110 vt vi vj vk vh vm) rfl ?_
        refine z_aload_n F dL_law_786 rfl 2 rfl ?_
        refine z_aload_n F dL_law_787 rfl 0 rfl ?_
        refine z_iload_n F dL_law_788 rfl 3 rfl ?_
        refine z_iconst (v := 1) F dL_law_789 rfl ?_
        refine z_iadd F dL_law_790 ?_
        have h9 := h.1
        have h := h.2
        refine z_sld F X h9 dL_law_791 ?_
        refine z_callVi (fun u9 => w_law G a ab vg_108 vs vp vy ve vc_109 vu_110 vt vi vj vk vh u9) F (mX7_shown G ab vm (xs ((x3 + (1 : Int32))).toNatClampNeg) _ h) gL_law_X7_shown rfl hdX7_shown ⟨rfl, rfl, Nat.le_of_ble_eq_true rfl, Nat.le_of_ble_eq_true rfl, Nat.le_of_ble_eq_true rfl, Nat.le_of_ble_eq_true rfl⟩ 55 rfl rfl [55, 56, 57, 58, 59, 60, 61, 62, 63, 64, 65, 66, 67, 68, 69, 70, 71] [0, 1, 2, 3, 4, 5, 6, 7, 8, 9, 10, 11, 12, 13, 14, 15, 16, 17, 18, 19, 20, 21, 22, 23, 24, 25, 26, 27, 28, 29, 30, 31, 32, 33, 34, 35, 36, 37, 38, 39, 40, 41, 42, 43, 44, 45, 46, 47, 48, 49, 50, 51, 52, 53, 54] [0, 1, 2, 3, 4, 5, 6, 7, 8, 9, 10, 11, 12, 13, 14, 15, 16, 17, 18, 19, 20, 21, 22, 23, 24, 25, 26, 27, 28, 29, 30, 31, 32, 33, 34, 35, 36, 37, 38, 39, 40, 41, 42, 43, 44, 45, 46, 47, 48, 49, 50, 51, 52, 53, 54, 55, 56, 57, 58, 59, 60, 61, 62, 63, 64, 65, 66, 67, 68, 69, 70, 71] rfl rfl (by decide) (fun _ => rfl) rfl (Nat.le_of_ble_eq_true rfl) dL_law_792 (fun r_111 vm_112 h => ?_)
        refine z_icmp_eq 1044 F dL_law_795 (by decide) (fun c9 => ?_) (fun c9 => ?_)
        · have h := h.1 c9
          exact z_lv [0, 1, 2, 3] rfl (t1044 K18 ih18 vg_108 vs vp vy ve vc_109 vu_110 vt vi vj vk vh vm_112 x3 h)
        · have h := h.2 c9
          refine z_iconst (v := 0) F dL_law_798 rfl ?_
          exact hret (0 : Int32) (vg_108, vs, vp, vy, ve, vc_109, vu_110, vt, vi, vj, vk, vh, vm_112) _ _ h dL_law_799
      have h := h.2 c21
      by_cases c22 : ((xs (x3).toNatClampNeg) &&& (31 : Int32)) = 22
      · have h := h.1 c22
        refine z_tableIn (off := 767) 800 F dL_law_33 (by rw [c22] <;> decide) (by rw [c22] <;> decide) (by rw [c22] <;> decide) (by decide) ?_
        refine z_aload_n F dL_law_800 rfl 1 rfl ?_
        refine z_aload_n F dL_law_801 rfl 0 rfl ?_
        refine z_iload_n F dL_law_802 rfl 3 rfl ?_
        refine z_iconst (v := 1) F dL_law_803 rfl ?_
        refine z_iadd F dL_law_804 ?_
        have h9 := h.1
        have h := h.2
        refine z_sld F X h9 dL_law_805 ?_
        refine z_callVi (fun u9 => w_law G a ab u9.1 vs vp vy ve u9.2.1 u9.2.2 vt vi vj vk vh vm) F (mX6_look G a vg vc vu (xs ((x3 + (1 : Int32))).toNatClampNeg) _ h) gL_law_X6_look rfl hdX6_look ⟨rfl, rfl, Nat.le_of_ble_eq_true rfl, Nat.le_of_ble_eq_true rfl, Nat.le_of_ble_eq_true rfl, Nat.le_of_ble_eq_true rfl⟩ 0 rfl rfl [0, 1, 2, 3, 4, 5, 6, 7, 8, 28, 29, 30, 31, 32, 33] [9, 10, 11, 12, 13, 14, 15, 16, 17, 18, 19, 20, 21, 22, 23, 24, 25, 26, 27, 34, 35, 36, 37, 38, 39, 40, 41, 42, 43, 44, 45, 46, 47, 48, 49, 50, 51, 52, 53, 54, 55, 56, 57, 58, 59, 60, 61, 62, 63, 64, 65, 66, 67, 68, 69, 70, 71] [57, 58, 59, 60, 61, 62, 63, 64, 65, 0, 1, 2, 3, 4, 5, 6, 7, 8, 9, 10, 11, 12, 13, 14, 15, 16, 17, 18, 66, 67, 68, 69, 70, 71, 19, 20, 21, 22, 23, 24, 25, 26, 27, 28, 29, 30, 31, 32, 33, 34, 35, 36, 37, 38, 39, 40, 41, 42, 43, 44, 45, 46, 47, 48, 49, 50, 51, 52, 53, 54, 55, 56] rfl rfl (by decide) (fun _ => rfl) rfl (Nat.le_of_ble_eq_true rfl) dL_law_806 (fun r_113 u9 h => ?_)
        obtain ⟨vg_114, vc_115, vu_116⟩ := u9
        refine z_w (w' := w_law G a ab vg_114 vs vp vy ve vc_115 vu_116 vt vi vj vk vh vm) rfl ?_
        refine z_aload_n F dL_law_809 rfl 2 rfl ?_
        refine z_aload_n F dL_law_810 rfl 0 rfl ?_
        refine z_iload_n F dL_law_811 rfl 3 rfl ?_
        refine z_iconst (v := 1) F dL_law_812 rfl ?_
        refine z_iadd F dL_law_813 ?_
        have h9 := h.1
        have h := h.2
        refine z_sld F X h9 dL_law_814 ?_
        refine z_callVi (fun u9 => w_law G a ab vg_114 vs vp vy ve vc_115 vu_116 vt vi vj vk vh u9) F (mX7_look G ab vm (xs ((x3 + (1 : Int32))).toNatClampNeg) _ h) gL_law_X7_look rfl hdX7_look ⟨rfl, rfl, Nat.le_of_ble_eq_true rfl, Nat.le_of_ble_eq_true rfl, Nat.le_of_ble_eq_true rfl, Nat.le_of_ble_eq_true rfl⟩ 55 rfl rfl [55, 56, 57, 58, 59, 60, 61, 62, 63, 64, 65, 66, 67, 68, 69, 70, 71] [0, 1, 2, 3, 4, 5, 6, 7, 8, 9, 10, 11, 12, 13, 14, 15, 16, 17, 18, 19, 20, 21, 22, 23, 24, 25, 26, 27, 28, 29, 30, 31, 32, 33, 34, 35, 36, 37, 38, 39, 40, 41, 42, 43, 44, 45, 46, 47, 48, 49, 50, 51, 52, 53, 54] [0, 1, 2, 3, 4, 5, 6, 7, 8, 9, 10, 11, 12, 13, 14, 15, 16, 17, 18, 19, 20, 21, 22, 23, 24, 25, 26, 27, 28, 29, 30, 31, 32, 33, 34, 35, 36, 37, 38, 39, 40, 41, 42, 43, 44, 45, 46, 47, 48, 49, 50, 51, 52, 53, 54, 55, 56, 57, 58, 59, 60, 61, 62, 63, 64, 65, 66, 67, 68, 69, 70, 71] rfl rfl (by decide) (fun _ => rfl) rfl (Nat.le_of_ble_eq_true rfl) dL_law_815 (fun r_117 vm_118 h => ?_)
        refine z_icmp_eq 1044 F dL_law_818 (by decide) (fun c9 => ?_) (fun c9 => ?_)
        · have h := h.1 c9
          exact z_lv [0, 1, 2, 3] rfl (t1044 K18 ih18 vg_114 vs vp vy ve vc_115 vu_116 vt vi vj vk vh vm_118 x3 h)
        · have h := h.2 c9
          refine z_iconst (v := 0) F dL_law_821 rfl ?_
          exact hret (0 : Int32) (vg_114, vs, vp, vy, ve, vc_115, vu_116, vt, vi, vj, vk, vh, vm_118) _ _ h dL_law_822
      have h := h.2 c22
      by_cases c23 : ((xs (x3).toNatClampNeg) &&& (31 : Int32)) = 23
      · have h := h.1 c23
        refine z_tableIn (off := 790) 823 F dL_law_33 (by rw [c23] <;> decide) (by rw [c23] <;> decide) (by rw [c23] <;> decide) (by decide) ?_
        refine z_aload_n F dL_law_823 rfl 1 rfl ?_
        refine z_aload_n F dL_law_824 rfl 0 rfl ?_
        refine z_iload_n F dL_law_825 rfl 3 rfl ?_
        refine z_iconst (v := 1) F dL_law_826 rfl ?_
        refine z_iadd F dL_law_827 ?_
        have h9 := h.1
        have h := h.2
        refine z_sld F X h9 dL_law_828 ?_
        refine z_aload_n F dL_law_829 rfl 0 rfl ?_
        refine z_iload_n F dL_law_830 rfl 3 rfl ?_
        refine z_iconst (v := 2) F dL_law_831 rfl ?_
        refine z_iadd F dL_law_832 ?_
        have h9 := h.1
        have h := h.2
        refine z_sld F X h9 dL_law_833 ?_
        refine z_aload_n F dL_law_834 rfl 0 rfl ?_
        refine z_iload_n F dL_law_835 rfl 3 rfl ?_
        refine z_iconst (v := 3) F dL_law_836 rfl ?_
        refine z_iadd F dL_law_837 ?_
        have h9 := h.1
        have h := h.2
        refine z_sld F X h9 dL_law_838 ?_
        refine z_aload_n F dL_law_839 rfl 0 rfl ?_
        refine z_iload_n F dL_law_840 rfl 3 rfl ?_
        refine z_iconst (v := 4) F dL_law_841 rfl ?_
        refine z_iadd F dL_law_842 ?_
        have h9 := h.1
        have h := h.2
        refine z_sld F X h9 dL_law_843 ?_
        refine z_aload_n F dL_law_844 rfl 0 rfl ?_
        refine z_iload_n F dL_law_845 rfl 3 rfl ?_
        refine z_iconst (v := 5) F dL_law_846 rfl ?_
        refine z_iadd F dL_law_847 ?_
        have h9 := h.1
        have h := h.2
        refine z_sld F X h9 dL_law_848 ?_
        refine z_aload_n F dL_law_849 rfl 0 rfl ?_
        refine z_iload_n F dL_law_850 rfl 3 rfl ?_
        refine z_bipush (v := 6) F dL_law_851 rfl ?_
        refine z_iadd F dL_law_853 ?_
        have h9 := h.1
        have h := h.2
        refine z_sld F X h9 dL_law_854 ?_
        refine z_callVl (fun u9 => w_law G a ab u9.1 vs vp vy ve u9.2 vu vt vi vj vk vh vm) F (mX6_fogs G a vg vc (xs ((x3 + (1 : Int32))).toNatClampNeg) (xs ((x3 + (2 : Int32))).toNatClampNeg) (xs ((x3 + (3 : Int32))).toNatClampNeg) (xs ((x3 + (4 : Int32))).toNatClampNeg) (xs ((x3 + (5 : Int32))).toNatClampNeg) (xs ((x3 + (6 : Int32))).toNatClampNeg) _ h) gL_law_X6_fogs rfl hdX6_fogs ⟨rfl, rfl, Nat.le_of_ble_eq_true rfl, Nat.le_of_ble_eq_true rfl, Nat.le_of_ble_eq_true rfl, Nat.le_of_ble_eq_true rfl⟩ 0 rfl rfl [0, 1, 2, 3, 4, 5, 6, 7, 8, 28, 29] [9, 10, 11, 12, 13, 14, 15, 16, 17, 18, 19, 20, 21, 22, 23, 24, 25, 26, 27, 30, 31, 32, 33, 34, 35, 36, 37, 38, 39, 40, 41, 42, 43, 44, 45, 46, 47, 48, 49, 50, 51, 52, 53, 54, 55, 56, 57, 58, 59, 60, 61, 62, 63, 64, 65, 66, 67, 68, 69, 70, 71] [61, 62, 63, 64, 65, 66, 67, 68, 69, 0, 1, 2, 3, 4, 5, 6, 7, 8, 9, 10, 11, 12, 13, 14, 15, 16, 17, 18, 70, 71, 19, 20, 21, 22, 23, 24, 25, 26, 27, 28, 29, 30, 31, 32, 33, 34, 35, 36, 37, 38, 39, 40, 41, 42, 43, 44, 45, 46, 47, 48, 49, 50, 51, 52, 53, 54, 55, 56, 57, 58, 59, 60] rfl rfl (by decide) (fun _ => rfl) rfl (Nat.le_of_ble_eq_true rfl) dL_law_855 (fun r_119 u9 h => ?_)
        obtain ⟨vg_120, vc_121⟩ := u9
        refine z_w (w' := w_law G a ab vg_120 vs vp vy ve vc_121 vu vt vi vj vk vh vm) rfl ?_
        refine z_aload_n F dL_law_858 rfl 2 rfl ?_
        refine z_aload_n F dL_law_859 rfl 0 rfl ?_
        refine z_iload_n F dL_law_860 rfl 3 rfl ?_
        refine z_iconst (v := 1) F dL_law_861 rfl ?_
        refine z_iadd F dL_law_862 ?_
        have h9 := h.1
        have h := h.2
        refine z_sld F X h9 dL_law_863 ?_
        refine z_aload_n F dL_law_864 rfl 0 rfl ?_
        refine z_iload_n F dL_law_865 rfl 3 rfl ?_
        refine z_iconst (v := 2) F dL_law_866 rfl ?_
        refine z_iadd F dL_law_867 ?_
        have h9 := h.1
        have h := h.2
        refine z_sld F X h9 dL_law_868 ?_
        refine z_aload_n F dL_law_869 rfl 0 rfl ?_
        refine z_iload_n F dL_law_870 rfl 3 rfl ?_
        refine z_iconst (v := 3) F dL_law_871 rfl ?_
        refine z_iadd F dL_law_872 ?_
        have h9 := h.1
        have h := h.2
        refine z_sld F X h9 dL_law_873 ?_
        refine z_aload_n F dL_law_874 rfl 0 rfl ?_
        refine z_iload_n F dL_law_875 rfl 3 rfl ?_
        refine z_iconst (v := 4) F dL_law_876 rfl ?_
        refine z_iadd F dL_law_877 ?_
        have h9 := h.1
        have h := h.2
        refine z_sld F X h9 dL_law_878 ?_
        refine z_aload_n F dL_law_879 rfl 0 rfl ?_
        refine z_iload_n F dL_law_880 rfl 3 rfl ?_
        refine z_iconst (v := 5) F dL_law_881 rfl ?_
        refine z_iadd F dL_law_882 ?_
        have h9 := h.1
        have h := h.2
        refine z_sld F X h9 dL_law_883 ?_
        refine z_aload_n F dL_law_884 rfl 0 rfl ?_
        refine z_iload_n F dL_law_885 rfl 3 rfl ?_
        refine z_bipush (v := 6) F dL_law_886 rfl ?_
        refine z_iadd F dL_law_888 ?_
        have h9 := h.1
        have h := h.2
        refine z_sld F X h9 dL_law_889 ?_
        refine z_callVl (fun u9 => w_law G a ab vg_120 vs vp vy ve vc_121 vu vt vi vj vk vh u9) F (mX7_fogs G ab vm (xs ((x3 + (1 : Int32))).toNatClampNeg) (xs ((x3 + (2 : Int32))).toNatClampNeg) (xs ((x3 + (3 : Int32))).toNatClampNeg) (xs ((x3 + (4 : Int32))).toNatClampNeg) (xs ((x3 + (5 : Int32))).toNatClampNeg) (xs ((x3 + (6 : Int32))).toNatClampNeg) _ h) gL_law_X7_fogs rfl hdX7_fogs ⟨rfl, rfl, Nat.le_of_ble_eq_true rfl, Nat.le_of_ble_eq_true rfl, Nat.le_of_ble_eq_true rfl, Nat.le_of_ble_eq_true rfl⟩ 55 rfl rfl [55, 56, 57, 58, 59, 60, 61, 62, 63, 64, 65, 66, 67, 68, 69, 70, 71] [0, 1, 2, 3, 4, 5, 6, 7, 8, 9, 10, 11, 12, 13, 14, 15, 16, 17, 18, 19, 20, 21, 22, 23, 24, 25, 26, 27, 28, 29, 30, 31, 32, 33, 34, 35, 36, 37, 38, 39, 40, 41, 42, 43, 44, 45, 46, 47, 48, 49, 50, 51, 52, 53, 54] [0, 1, 2, 3, 4, 5, 6, 7, 8, 9, 10, 11, 12, 13, 14, 15, 16, 17, 18, 19, 20, 21, 22, 23, 24, 25, 26, 27, 28, 29, 30, 31, 32, 33, 34, 35, 36, 37, 38, 39, 40, 41, 42, 43, 44, 45, 46, 47, 48, 49, 50, 51, 52, 53, 54, 55, 56, 57, 58, 59, 60, 61, 62, 63, 64, 65, 66, 67, 68, 69, 70, 71] rfl rfl (by decide) (fun _ => rfl) rfl (Nat.le_of_ble_eq_true rfl) dL_law_890 (fun r_122 vm_123 h => ?_)
        refine z_lcmp F dL_law_893 ?_
        refine z_if_eq 1044 F dL_law_894 (by decide) (fun c9 => ?_) (fun c9 => ?_)
        · have h := h.1 c9
          exact z_lv [0, 1, 2, 3] rfl (t1044 K18 ih18 vg_120 vs vp vy ve vc_121 vu vt vi vj vk vh vm_123 x3 h)
        · have h := h.2 c9
          refine z_iconst (v := 0) F dL_law_897 rfl ?_
          exact hret (0 : Int32) (vg_120, vs, vp, vy, ve, vc_121, vu, vt, vi, vj, vk, vh, vm_123) _ _ h dL_law_898
      have h := h.2 c23
      by_cases c24 : ((xs (x3).toNatClampNeg) &&& (31 : Int32)) = 24
      · have h := h.1 c24
        refine z_tableIn (off := 866) 899 F dL_law_33 (by rw [c24] <;> decide) (by rw [c24] <;> decide) (by rw [c24] <;> decide) (by decide) ?_
        refine z_aload_n F dL_law_899 rfl 1 rfl ?_
        refine z_aload_n F dL_law_900 rfl 0 rfl ?_
        refine z_iload_n F dL_law_901 rfl 3 rfl ?_
        refine z_iconst (v := 1) F dL_law_902 rfl ?_
        refine z_iadd F dL_law_903 ?_
        have h9 := h.1
        have h := h.2
        refine z_sld F X h9 dL_law_904 ?_
        refine z_aload_n F dL_law_905 rfl 0 rfl ?_
        refine z_iload_n F dL_law_906 rfl 3 rfl ?_
        refine z_iconst (v := 2) F dL_law_907 rfl ?_
        refine z_iadd F dL_law_908 ?_
        have h9 := h.1
        have h := h.2
        refine z_sld F X h9 dL_law_909 ?_
        refine z_callVi (fun u9 => w_law G a ab u9.1 vs vp vy ve vc vu u9.2 vi vj vk vh vm) F (mX6_turns G a vg vt (xs ((x3 + (1 : Int32))).toNatClampNeg) (xs ((x3 + (2 : Int32))).toNatClampNeg) _ h) gL_law_X6_turns rfl hdX6_turns ⟨rfl, rfl, Nat.le_of_ble_eq_true rfl, Nat.le_of_ble_eq_true rfl, Nat.le_of_ble_eq_true rfl, Nat.le_of_ble_eq_true rfl⟩ 0 rfl rfl [0, 1, 2, 3, 4, 5, 6, 7, 8, 34, 35, 36] [9, 10, 11, 12, 13, 14, 15, 16, 17, 18, 19, 20, 21, 22, 23, 24, 25, 26, 27, 28, 29, 30, 31, 32, 33, 37, 38, 39, 40, 41, 42, 43, 44, 45, 46, 47, 48, 49, 50, 51, 52, 53, 54, 55, 56, 57, 58, 59, 60, 61, 62, 63, 64, 65, 66, 67, 68, 69, 70, 71] [60, 61, 62, 63, 64, 65, 66, 67, 68, 0, 1, 2, 3, 4, 5, 6, 7, 8, 9, 10, 11, 12, 13, 14, 15, 16, 17, 18, 19, 20, 21, 22, 23, 24, 69, 70, 71, 25, 26, 27, 28, 29, 30, 31, 32, 33, 34, 35, 36, 37, 38, 39, 40, 41, 42, 43, 44, 45, 46, 47, 48, 49, 50, 51, 52, 53, 54, 55, 56, 57, 58, 59] rfl rfl (by decide) (fun _ => rfl) rfl (Nat.le_of_ble_eq_true rfl) dL_law_910 (fun r_124 u9 h => ?_)
        obtain ⟨vg_125, vt_126⟩ := u9
        refine z_w (w' := w_law G a ab vg_125 vs vp vy ve vc vu vt_126 vi vj vk vh vm) rfl ?_
        refine z_aload_n F dL_law_913 rfl 2 rfl ?_
        refine z_aload_n F dL_law_914 rfl 0 rfl ?_
        refine z_iload_n F dL_law_915 rfl 3 rfl ?_
        refine z_iconst (v := 1) F dL_law_916 rfl ?_
        refine z_iadd F dL_law_917 ?_
        have h9 := h.1
        have h := h.2
        refine z_sld F X h9 dL_law_918 ?_
        refine z_aload_n F dL_law_919 rfl 0 rfl ?_
        refine z_iload_n F dL_law_920 rfl 3 rfl ?_
        refine z_iconst (v := 2) F dL_law_921 rfl ?_
        refine z_iadd F dL_law_922 ?_
        have h9 := h.1
        have h := h.2
        refine z_sld F X h9 dL_law_923 ?_
        refine z_callVi (fun u9 => w_law G a ab vg_125 vs vp vy ve vc vu vt_126 vi vj vk vh u9) F (mX7_turns G ab vm (xs ((x3 + (1 : Int32))).toNatClampNeg) (xs ((x3 + (2 : Int32))).toNatClampNeg) _ h) gL_law_X7_turns rfl hdX7_turns ⟨rfl, rfl, Nat.le_of_ble_eq_true rfl, Nat.le_of_ble_eq_true rfl, Nat.le_of_ble_eq_true rfl, Nat.le_of_ble_eq_true rfl⟩ 55 rfl rfl [55, 56, 57, 58, 59, 60, 61, 62, 63, 64, 65, 66, 67, 68, 69, 70, 71] [0, 1, 2, 3, 4, 5, 6, 7, 8, 9, 10, 11, 12, 13, 14, 15, 16, 17, 18, 19, 20, 21, 22, 23, 24, 25, 26, 27, 28, 29, 30, 31, 32, 33, 34, 35, 36, 37, 38, 39, 40, 41, 42, 43, 44, 45, 46, 47, 48, 49, 50, 51, 52, 53, 54] [0, 1, 2, 3, 4, 5, 6, 7, 8, 9, 10, 11, 12, 13, 14, 15, 16, 17, 18, 19, 20, 21, 22, 23, 24, 25, 26, 27, 28, 29, 30, 31, 32, 33, 34, 35, 36, 37, 38, 39, 40, 41, 42, 43, 44, 45, 46, 47, 48, 49, 50, 51, 52, 53, 54, 55, 56, 57, 58, 59, 60, 61, 62, 63, 64, 65, 66, 67, 68, 69, 70, 71] rfl rfl (by decide) (fun _ => rfl) rfl (Nat.le_of_ble_eq_true rfl) dL_law_924 (fun r_127 vm_128 h => ?_)
        refine z_icmp_eq 1044 F dL_law_927 (by decide) (fun c9 => ?_) (fun c9 => ?_)
        · have h := h.1 c9
          exact z_lv [0, 1, 2, 3] rfl (t1044 K18 ih18 vg_125 vs vp vy ve vc vu vt_126 vi vj vk vh vm_128 x3 h)
        · have h := h.2 c9
          refine z_iconst (v := 0) F dL_law_930 rfl ?_
          exact hret (0 : Int32) (vg_125, vs, vp, vy, ve, vc, vu, vt_126, vi, vj, vk, vh, vm_128) _ _ h dL_law_931
      have h := h.2 c24
      by_cases c25 : ((xs (x3).toNatClampNeg) &&& (31 : Int32)) = 25
      · have h := h.1 c25
        refine z_tableIn (off := 899) 932 F dL_law_33 (by rw [c25] <;> decide) (by rw [c25] <;> decide) (by rw [c25] <;> decide) (by decide) ?_
        refine z_aload_n F dL_law_932 rfl 1 rfl ?_
        refine z_aload_n F dL_law_933 rfl 0 rfl ?_
        refine z_iload_n F dL_law_934 rfl 3 rfl ?_
        refine z_iconst (v := 1) F dL_law_935 rfl ?_
        refine z_iadd F dL_law_936 ?_
        have h9 := h.1
        have h := h.2
        refine z_sld F X h9 dL_law_937 ?_
        refine z_aload_n F dL_law_938 rfl 0 rfl ?_
        refine z_iload_n F dL_law_939 rfl 3 rfl ?_
        refine z_iconst (v := 2) F dL_law_940 rfl ?_
        refine z_iadd F dL_law_941 ?_
        have h9 := h.1
        have h := h.2
        refine z_sld F X h9 dL_law_942 ?_
        refine z_aload_n F dL_law_943 rfl 0 rfl ?_
        refine z_iload_n F dL_law_944 rfl 3 rfl ?_
        refine z_iconst (v := 3) F dL_law_945 rfl ?_
        refine z_iadd F dL_law_946 ?_
        have h9 := h.1
        have h := h.2
        refine z_sld F X h9 dL_law_947 ?_
        refine z_callVi (fun u9 => w_law G a ab u9.1 u9.2 vp vy ve vc vu vt vi vj vk vh vm) F (mX6_year G a vg vs (xs ((x3 + (1 : Int32))).toNatClampNeg) (xs ((x3 + (2 : Int32))).toNatClampNeg) (xs ((x3 + (3 : Int32))).toNatClampNeg) _ h) gL_law_X6_year rfl hdX6_year ⟨rfl, rfl, Nat.le_of_ble_eq_true rfl, Nat.le_of_ble_eq_true rfl, Nat.le_of_ble_eq_true rfl, Nat.le_of_ble_eq_true rfl⟩ 0 rfl rfl [0, 1, 2, 3, 4, 5, 6, 7, 8, 9, 10, 11, 12, 13, 14, 15, 16] [17, 18, 19, 20, 21, 22, 23, 24, 25, 26, 27, 28, 29, 30, 31, 32, 33, 34, 35, 36, 37, 38, 39, 40, 41, 42, 43, 44, 45, 46, 47, 48, 49, 50, 51, 52, 53, 54, 55, 56, 57, 58, 59, 60, 61, 62, 63, 64, 65, 66, 67, 68, 69, 70, 71] [55, 56, 57, 58, 59, 60, 61, 62, 63, 64, 65, 66, 67, 68, 69, 70, 71, 0, 1, 2, 3, 4, 5, 6, 7, 8, 9, 10, 11, 12, 13, 14, 15, 16, 17, 18, 19, 20, 21, 22, 23, 24, 25, 26, 27, 28, 29, 30, 31, 32, 33, 34, 35, 36, 37, 38, 39, 40, 41, 42, 43, 44, 45, 46, 47, 48, 49, 50, 51, 52, 53, 54] rfl rfl (by decide) (fun _ => rfl) rfl (Nat.le_of_ble_eq_true rfl) dL_law_948 (fun r_129 u9 h => ?_)
        obtain ⟨vg_130, vs_131⟩ := u9
        refine z_w (w' := w_law G a ab vg_130 vs_131 vp vy ve vc vu vt vi vj vk vh vm) rfl ?_
        refine z_aload_n F dL_law_951 rfl 2 rfl ?_
        refine z_aload_n F dL_law_952 rfl 0 rfl ?_
        refine z_iload_n F dL_law_953 rfl 3 rfl ?_
        refine z_iconst (v := 1) F dL_law_954 rfl ?_
        refine z_iadd F dL_law_955 ?_
        have h9 := h.1
        have h := h.2
        refine z_sld F X h9 dL_law_956 ?_
        refine z_aload_n F dL_law_957 rfl 0 rfl ?_
        refine z_iload_n F dL_law_958 rfl 3 rfl ?_
        refine z_iconst (v := 2) F dL_law_959 rfl ?_
        refine z_iadd F dL_law_960 ?_
        have h9 := h.1
        have h := h.2
        refine z_sld F X h9 dL_law_961 ?_
        refine z_aload_n F dL_law_962 rfl 0 rfl ?_
        refine z_iload_n F dL_law_963 rfl 3 rfl ?_
        refine z_iconst (v := 3) F dL_law_964 rfl ?_
        refine z_iadd F dL_law_965 ?_
        have h9 := h.1
        have h := h.2
        refine z_sld F X h9 dL_law_966 ?_
        refine z_callVi (fun u9 => w_law G a ab vg_130 vs_131 vp vy ve vc vu vt vi vj vk vh u9) F (mX7_year G ab vm (xs ((x3 + (1 : Int32))).toNatClampNeg) (xs ((x3 + (2 : Int32))).toNatClampNeg) (xs ((x3 + (3 : Int32))).toNatClampNeg) _ h) gL_law_X7_year rfl hdX7_year ⟨rfl, rfl, Nat.le_of_ble_eq_true rfl, Nat.le_of_ble_eq_true rfl, Nat.le_of_ble_eq_true rfl, Nat.le_of_ble_eq_true rfl⟩ 55 rfl rfl [55, 56, 57, 58, 59, 60, 61, 62, 63, 64, 65, 66, 67, 68, 69, 70, 71] [0, 1, 2, 3, 4, 5, 6, 7, 8, 9, 10, 11, 12, 13, 14, 15, 16, 17, 18, 19, 20, 21, 22, 23, 24, 25, 26, 27, 28, 29, 30, 31, 32, 33, 34, 35, 36, 37, 38, 39, 40, 41, 42, 43, 44, 45, 46, 47, 48, 49, 50, 51, 52, 53, 54] [0, 1, 2, 3, 4, 5, 6, 7, 8, 9, 10, 11, 12, 13, 14, 15, 16, 17, 18, 19, 20, 21, 22, 23, 24, 25, 26, 27, 28, 29, 30, 31, 32, 33, 34, 35, 36, 37, 38, 39, 40, 41, 42, 43, 44, 45, 46, 47, 48, 49, 50, 51, 52, 53, 54, 55, 56, 57, 58, 59, 60, 61, 62, 63, 64, 65, 66, 67, 68, 69, 70, 71] rfl rfl (by decide) (fun _ => rfl) rfl (Nat.le_of_ble_eq_true rfl) dL_law_967 (fun r_132 vm_133 h => ?_)
        refine z_icmp_eq 1044 F dL_law_970 (by decide) (fun c9 => ?_) (fun c9 => ?_)
        · have h := h.1 c9
          exact z_lv [0, 1, 2, 3] rfl (t1044 K18 ih18 vg_130 vs_131 vp vy ve vc vu vt vi vj vk vh vm_133 x3 h)
        · have h := h.2 c9
          refine z_iconst (v := 0) F dL_law_973 rfl ?_
          exact hret (0 : Int32) (vg_130, vs_131, vp, vy, ve, vc, vu, vt, vi, vj, vk, vh, vm_133) _ _ h dL_law_974
      have h := h.2 c25
      by_cases c26 : ((xs (x3).toNatClampNeg) &&& (31 : Int32)) = 26
      · have h := h.1 c26
        refine z_tableIn (off := 942) 975 F dL_law_33 (by rw [c26] <;> decide) (by rw [c26] <;> decide) (by rw [c26] <;> decide) (by decide) ?_
        refine z_aload_n F dL_law_975 rfl 1 rfl ?_
        refine z_aload_n F dL_law_976 rfl 0 rfl ?_
        refine z_iload_n F dL_law_977 rfl 3 rfl ?_
        refine z_iconst (v := 1) F dL_law_978 rfl ?_
        refine z_iadd F dL_law_979 ?_
        have h9 := h.1
        have h := h.2
        refine z_sld F X h9 dL_law_980 ?_
        refine z_callVi (fun u9 => w_law G a ab u9.1 vs vp vy ve vc vu vt u9.2.1 u9.2.2.1 u9.2.2.2 vh vm) F (mX6_image G a vg vi vj vk (xs ((x3 + (1 : Int32))).toNatClampNeg) _ h) gL_law_X6_image rfl hdX6_image ⟨rfl, rfl, Nat.le_of_ble_eq_true rfl, Nat.le_of_ble_eq_true rfl, Nat.le_of_ble_eq_true rfl, Nat.le_of_ble_eq_true rfl⟩ 0 rfl rfl [0, 1, 2, 3, 4, 5, 6, 7, 8, 37, 38, 39, 40, 41, 42, 43, 44, 45, 46, 47, 48, 49, 50, 51, 52, 53] [9, 10, 11, 12, 13, 14, 15, 16, 17, 18, 19, 20, 21, 22, 23, 24, 25, 26, 27, 28, 29, 30, 31, 32, 33, 34, 35, 36, 54, 55, 56, 57, 58, 59, 60, 61, 62, 63, 64, 65, 66, 67, 68, 69, 70, 71] [46, 47, 48, 49, 50, 51, 52, 53, 54, 0, 1, 2, 3, 4, 5, 6, 7, 8, 9, 10, 11, 12, 13, 14, 15, 16, 17, 18, 19, 20, 21, 22, 23, 24, 25, 26, 27, 55, 56, 57, 58, 59, 60, 61, 62, 63, 64, 65, 66, 67, 68, 69, 70, 71, 28, 29, 30, 31, 32, 33, 34, 35, 36, 37, 38, 39, 40, 41, 42, 43, 44, 45] rfl rfl (by decide) (fun _ => rfl) rfl (Nat.le_of_ble_eq_true rfl) dL_law_981 (fun r_134 u9 h => ?_)
        obtain ⟨vg_135, vi_136, vj_137, vk_138⟩ := u9
        refine z_w (w' := w_law G a ab vg_135 vs vp vy ve vc vu vt vi_136 vj_137 vk_138 vh vm) rfl ?_
        refine z_aload_n F dL_law_984 rfl 2 rfl ?_
        refine z_aload_n F dL_law_985 rfl 0 rfl ?_
        refine z_iload_n F dL_law_986 rfl 3 rfl ?_
        refine z_iconst (v := 1) F dL_law_987 rfl ?_
        refine z_iadd F dL_law_988 ?_
        have h9 := h.1
        have h := h.2
        refine z_sld F X h9 dL_law_989 ?_
        refine z_callVi (fun u9 => w_law G a ab vg_135 vs vp vy ve vc vu vt vi_136 vj_137 vk_138 vh u9) F (mX7_image G ab vm (xs ((x3 + (1 : Int32))).toNatClampNeg) _ h) gL_law_X7_image rfl hdX7_image ⟨rfl, rfl, Nat.le_of_ble_eq_true rfl, Nat.le_of_ble_eq_true rfl, Nat.le_of_ble_eq_true rfl, Nat.le_of_ble_eq_true rfl⟩ 55 rfl rfl [55, 56, 57, 58, 59, 60, 61, 62, 63, 64, 65, 66, 67, 68, 69, 70, 71] [0, 1, 2, 3, 4, 5, 6, 7, 8, 9, 10, 11, 12, 13, 14, 15, 16, 17, 18, 19, 20, 21, 22, 23, 24, 25, 26, 27, 28, 29, 30, 31, 32, 33, 34, 35, 36, 37, 38, 39, 40, 41, 42, 43, 44, 45, 46, 47, 48, 49, 50, 51, 52, 53, 54] [0, 1, 2, 3, 4, 5, 6, 7, 8, 9, 10, 11, 12, 13, 14, 15, 16, 17, 18, 19, 20, 21, 22, 23, 24, 25, 26, 27, 28, 29, 30, 31, 32, 33, 34, 35, 36, 37, 38, 39, 40, 41, 42, 43, 44, 45, 46, 47, 48, 49, 50, 51, 52, 53, 54, 55, 56, 57, 58, 59, 60, 61, 62, 63, 64, 65, 66, 67, 68, 69, 70, 71] rfl rfl (by decide) (fun _ => rfl) rfl (Nat.le_of_ble_eq_true rfl) dL_law_990 (fun r_139 vm_140 h => ?_)
        refine z_icmp_eq 1044 F dL_law_993 (by decide) (fun c9 => ?_) (fun c9 => ?_)
        · have h := h.1 c9
          exact z_lv [0, 1, 2, 3] rfl (t1044 K18 ih18 vg_135 vs vp vy ve vc vu vt vi_136 vj_137 vk_138 vh vm_140 x3 h)
        · have h := h.2 c9
          refine z_iconst (v := 0) F dL_law_996 rfl ?_
          exact hret (0 : Int32) (vg_135, vs, vp, vy, ve, vc, vu, vt, vi_136, vj_137, vk_138, vh, vm_140) _ _ h dL_law_997
      have h := h.2 c26
      by_cases c27 : ((xs (x3).toNatClampNeg) &&& (31 : Int32)) = 27
      · have h := h.1 c27
        refine z_tableIn (off := 965) 998 F dL_law_33 (by rw [c27] <;> decide) (by rw [c27] <;> decide) (by rw [c27] <;> decide) (by decide) ?_
        refine z_aload_n F dL_law_998 rfl 1 rfl ?_
        refine z_aload_n F dL_law_999 rfl 0 rfl ?_
        refine z_iload_n F dL_law_1000 rfl 3 rfl ?_
        refine z_iconst (v := 1) F dL_law_1001 rfl ?_
        refine z_iadd F dL_law_1002 ?_
        have h9 := h.1
        have h := h.2
        refine z_sld F X h9 dL_law_1003 ?_
        refine z_callVi (fun u9 => w_law G a ab u9.1 vs vp vy ve vc vu vt u9.2.1 u9.2.2.1 u9.2.2.2 vh vm) F (mX6_restore G a vg vi vj vk (xs ((x3 + (1 : Int32))).toNatClampNeg) _ h) gL_law_X6_restore rfl hdX6_restore ⟨rfl, rfl, Nat.le_of_ble_eq_true rfl, Nat.le_of_ble_eq_true rfl, Nat.le_of_ble_eq_true rfl, Nat.le_of_ble_eq_true rfl⟩ 0 rfl rfl [0, 1, 2, 3, 4, 5, 6, 7, 8, 37, 38, 39, 40, 41, 42, 43, 44, 45, 46, 47, 48, 49, 50, 51, 52, 53] [9, 10, 11, 12, 13, 14, 15, 16, 17, 18, 19, 20, 21, 22, 23, 24, 25, 26, 27, 28, 29, 30, 31, 32, 33, 34, 35, 36, 54, 55, 56, 57, 58, 59, 60, 61, 62, 63, 64, 65, 66, 67, 68, 69, 70, 71] [46, 47, 48, 49, 50, 51, 52, 53, 54, 0, 1, 2, 3, 4, 5, 6, 7, 8, 9, 10, 11, 12, 13, 14, 15, 16, 17, 18, 19, 20, 21, 22, 23, 24, 25, 26, 27, 55, 56, 57, 58, 59, 60, 61, 62, 63, 64, 65, 66, 67, 68, 69, 70, 71, 28, 29, 30, 31, 32, 33, 34, 35, 36, 37, 38, 39, 40, 41, 42, 43, 44, 45] rfl rfl (by decide) (fun _ => rfl) rfl (Nat.le_of_ble_eq_true rfl) dL_law_1004 (fun r_141 u9 h => ?_)
        obtain ⟨vg_142, vi_143, vj_144, vk_145⟩ := u9
        refine z_w (w' := w_law G a ab vg_142 vs vp vy ve vc vu vt vi_143 vj_144 vk_145 vh vm) rfl ?_
        refine z_aload_n F dL_law_1007 rfl 2 rfl ?_
        refine z_aload_n F dL_law_1008 rfl 0 rfl ?_
        refine z_iload_n F dL_law_1009 rfl 3 rfl ?_
        refine z_iconst (v := 1) F dL_law_1010 rfl ?_
        refine z_iadd F dL_law_1011 ?_
        have h9 := h.1
        have h := h.2
        refine z_sld F X h9 dL_law_1012 ?_
        refine z_callVi (fun u9 => w_law G a ab vg_142 vs vp vy ve vc vu vt vi_143 vj_144 vk_145 vh u9) F (mX7_restore G ab vm (xs ((x3 + (1 : Int32))).toNatClampNeg) _ h) gL_law_X7_restore rfl hdX7_restore ⟨rfl, rfl, Nat.le_of_ble_eq_true rfl, Nat.le_of_ble_eq_true rfl, Nat.le_of_ble_eq_true rfl, Nat.le_of_ble_eq_true rfl⟩ 55 rfl rfl [55, 56, 57, 58, 59, 60, 61, 62, 63, 64, 65, 66, 67, 68, 69, 70, 71] [0, 1, 2, 3, 4, 5, 6, 7, 8, 9, 10, 11, 12, 13, 14, 15, 16, 17, 18, 19, 20, 21, 22, 23, 24, 25, 26, 27, 28, 29, 30, 31, 32, 33, 34, 35, 36, 37, 38, 39, 40, 41, 42, 43, 44, 45, 46, 47, 48, 49, 50, 51, 52, 53, 54] [0, 1, 2, 3, 4, 5, 6, 7, 8, 9, 10, 11, 12, 13, 14, 15, 16, 17, 18, 19, 20, 21, 22, 23, 24, 25, 26, 27, 28, 29, 30, 31, 32, 33, 34, 35, 36, 37, 38, 39, 40, 41, 42, 43, 44, 45, 46, 47, 48, 49, 50, 51, 52, 53, 54, 55, 56, 57, 58, 59, 60, 61, 62, 63, 64, 65, 66, 67, 68, 69, 70, 71] rfl rfl (by decide) (fun _ => rfl) rfl (Nat.le_of_ble_eq_true rfl) dL_law_1013 (fun r_146 vm_147 h => ?_)
        refine z_icmp_eq 1044 F dL_law_1016 (by decide) (fun c9 => ?_) (fun c9 => ?_)
        · have h := h.1 c9
          exact z_lv [0, 1, 2, 3] rfl (t1044 K18 ih18 vg_142 vs vp vy ve vc vu vt vi_143 vj_144 vk_145 vh vm_147 x3 h)
        · have h := h.2 c9
          refine z_iconst (v := 0) F dL_law_1019 rfl ?_
          exact hret (0 : Int32) (vg_142, vs, vp, vy, ve, vc, vu, vt, vi_143, vj_144, vk_145, vh, vm_147) _ _ h dL_law_1020
      have h := h.2 c27
      by_cases c28 : ((xs (x3).toNatClampNeg) &&& (31 : Int32)) = 28
      · have h := h.1 c28
        refine z_tableIn (off := 988) 1021 F dL_law_33 (by rw [c28] <;> decide) (by rw [c28] <;> decide) (by rw [c28] <;> decide) (by decide) ?_
        refine z_aload_n F dL_law_1021 rfl 1 rfl ?_
        refine z_aload_n F dL_law_1022 rfl 0 rfl ?_
        refine z_iload_n F dL_law_1023 rfl 3 rfl ?_
        refine z_iconst (v := 1) F dL_law_1024 rfl ?_
        refine z_iadd F dL_law_1025 ?_
        have h9 := h.1
        have h := h.2
        refine z_sld F X h9 dL_law_1026 ?_
        refine z_callVi (fun u9 => w_law G a ab u9.1 vs u9.2 vy ve vc vu vt vi vj vk vh vm) F (mX6_told G a vg vp (xs ((x3 + (1 : Int32))).toNatClampNeg) _ h) gL_law_X6_told rfl hdX6_told ⟨rfl, rfl, Nat.le_of_ble_eq_true rfl, Nat.le_of_ble_eq_true rfl, Nat.le_of_ble_eq_true rfl, Nat.le_of_ble_eq_true rfl⟩ 0 rfl rfl [0, 1, 2, 3, 4, 5, 6, 7, 8, 17, 18] [9, 10, 11, 12, 13, 14, 15, 16, 19, 20, 21, 22, 23, 24, 25, 26, 27, 28, 29, 30, 31, 32, 33, 34, 35, 36, 37, 38, 39, 40, 41, 42, 43, 44, 45, 46, 47, 48, 49, 50, 51, 52, 53, 54, 55, 56, 57, 58, 59, 60, 61, 62, 63, 64, 65, 66, 67, 68, 69, 70, 71] [61, 62, 63, 64, 65, 66, 67, 68, 69, 0, 1, 2, 3, 4, 5, 6, 7, 70, 71, 8, 9, 10, 11, 12, 13, 14, 15, 16, 17, 18, 19, 20, 21, 22, 23, 24, 25, 26, 27, 28, 29, 30, 31, 32, 33, 34, 35, 36, 37, 38, 39, 40, 41, 42, 43, 44, 45, 46, 47, 48, 49, 50, 51, 52, 53, 54, 55, 56, 57, 58, 59, 60] rfl rfl (by decide) (fun _ => rfl) rfl (Nat.le_of_ble_eq_true rfl) dL_law_1027 (fun r_148 u9 h => ?_)
        obtain ⟨vg_149, vp_150⟩ := u9
        refine z_w (w' := w_law G a ab vg_149 vs vp_150 vy ve vc vu vt vi vj vk vh vm) rfl ?_
        refine z_aload_n F dL_law_1030 rfl 2 rfl ?_
        refine z_aload_n F dL_law_1031 rfl 0 rfl ?_
        refine z_iload_n F dL_law_1032 rfl 3 rfl ?_
        refine z_iconst (v := 1) F dL_law_1033 rfl ?_
        refine z_iadd F dL_law_1034 ?_
        have h9 := h.1
        have h := h.2
        refine z_sld F X h9 dL_law_1035 ?_
        refine z_callVi (fun u9 => w_law G a ab vg_149 vs vp_150 vy ve vc vu vt vi vj vk vh u9) F (mX7_told G ab vm (xs ((x3 + (1 : Int32))).toNatClampNeg) _ h) gL_law_X7_told rfl hdX7_told ⟨rfl, rfl, Nat.le_of_ble_eq_true rfl, Nat.le_of_ble_eq_true rfl, Nat.le_of_ble_eq_true rfl, Nat.le_of_ble_eq_true rfl⟩ 55 rfl rfl [55, 56, 57, 58, 59, 60, 61, 62, 63, 64, 65, 66, 67, 68, 69, 70, 71] [0, 1, 2, 3, 4, 5, 6, 7, 8, 9, 10, 11, 12, 13, 14, 15, 16, 17, 18, 19, 20, 21, 22, 23, 24, 25, 26, 27, 28, 29, 30, 31, 32, 33, 34, 35, 36, 37, 38, 39, 40, 41, 42, 43, 44, 45, 46, 47, 48, 49, 50, 51, 52, 53, 54] [0, 1, 2, 3, 4, 5, 6, 7, 8, 9, 10, 11, 12, 13, 14, 15, 16, 17, 18, 19, 20, 21, 22, 23, 24, 25, 26, 27, 28, 29, 30, 31, 32, 33, 34, 35, 36, 37, 38, 39, 40, 41, 42, 43, 44, 45, 46, 47, 48, 49, 50, 51, 52, 53, 54, 55, 56, 57, 58, 59, 60, 61, 62, 63, 64, 65, 66, 67, 68, 69, 70, 71] rfl rfl (by decide) (fun _ => rfl) rfl (Nat.le_of_ble_eq_true rfl) dL_law_1036 (fun r_151 vm_152 h => ?_)
        refine z_icmp_eq 1044 F dL_law_1039 (by decide) (fun c9 => ?_) (fun c9 => ?_)
        · have h := h.1 c9
          exact z_lv [0, 1, 2, 3] rfl (t1044 K18 ih18 vg_149 vs vp_150 vy ve vc vu vt vi vj vk vh vm_152 x3 h)
        · have h := h.2 c9
          refine z_iconst (v := 0) F dL_law_1042 rfl ?_
          exact hret (0 : Int32) (vg_149, vs, vp_150, vy, ve, vc, vu, vt, vi, vj, vk, vh, vm_152) _ _ h dL_law_1043
      have h := h.2 c28
      refine z_tableOut 1044 F dL_law_33 (by have e0 := lv_neT (a := 0) c0 rfl; have e1 := lv_neT (a := 1) c1 rfl; have e2 := lv_neT (a := 2) c2 rfl; have e3 := lv_neT (a := 3) c3 rfl; have e4 := lv_neT (a := 4) c4 rfl; have e5 := lv_neT (a := 5) c5 rfl; have e6 := lv_neT (a := 6) c6 rfl; have e7 := lv_neT (a := 7) c7 rfl; have e8 := lv_neT (a := 8) c8 rfl; have e9 := lv_neT (a := 9) c9 rfl; have e10 := lv_neT (a := 10) c10 rfl; have e11 := lv_neT (a := 11) c11 rfl; have e12 := lv_neT (a := 12) c12 rfl; have e13 := lv_neT (a := 13) c13 rfl; have e14 := lv_neT (a := 14) c14 rfl; have e15 := lv_neT (a := 15) c15 rfl; have e16 := lv_neT (a := 16) c16 rfl; have e17 := lv_neT (a := 17) c17 rfl; have e18 := lv_neT (a := 18) c18 rfl; have e19 := lv_neT (a := 19) c19 rfl; have e20 := lv_neT (a := 20) c20 rfl; have e21 := lv_neT (a := 21) c21 rfl; have e22 := lv_neT (a := 22) c22 rfl; have e23 := lv_neT (a := 23) c23 rfl; have e24 := lv_neT (a := 24) c24 rfl; have e25 := lv_neT (a := 25) c25 rfl; have e26 := lv_neT (a := 26) c26 rfl; have e27 := lv_neT (a := 27) c27 rfl; have e28 := lv_neT (a := 28) c28 rfl; omega) (by decide) ?_
      exact z_lv [0, 1, 2, 3] rfl (t1044 K18 ih18 vg vs vp vy ve vc vu vt vi vj vk vh vm x3 h)
