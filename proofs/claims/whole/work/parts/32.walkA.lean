abbrev rmX3_seenAgo : Room := { frames := 0, cells := 0, slots := 0, locals := 0 }
set_option maxRecDepth 100000 in
set_option maxHeartbeats 4000000 in
theorem mX3_seenAgo (G : ZG) (a : Nat → Nat) (vg : Gr) (p1 : Int32) (p2 : Int32) (Q : Int32 → Gr → Prop) (h : wpX3_seenAgo vg p1 p2 Q) : ZMi G yX3_seenAgo wsX3_seenAgo rmX3_seenAgo [.ref (a 0), .int p1, .int p2] (w_Gr G a vg) (fun vg : Gr => w_Gr G a vg) (Q) := by
  refine z_ofi (cc := cX3_seenAgo) (N := 3) (lv := [(0, .ref (a 0)), (1, .int p1), (2, .int p2)]) (by decide) rfl (Nat.le_of_ble_eq_true rfl) rfl (fun E F hret => ?_)
  have F : ZF E 3 cX3_seenAgo RX3 wsX3_seenAgo rmX3_seenAgo G := F
  have f0 : ZW E (.fieldLink RX3 21 "ColourEcho$Gorge" "past" "[I") := F.at 1 rfl
  have iX3 : ∀ x ∈ u_ws RX3 TX3 13, x ∈ wsX3_seenAgo := fun _ h => List.mem_cons_of_mem _ (List.mem_append_right _ h)
  unfold wpX3_seenAgo at h
  refine z_iload_n F dX3_seenAgo_0 rfl 2 rfl ?_
  refine z_iconst (v := 1) F dX3_seenAgo_1 rfl ?_
  refine z_icmp_lt 27 F dX3_seenAgo_2 (by decide) (fun c9 => ?_) (fun c9 => ?_)
  · have h := h.1 c9
    refine z_iconst (v := 0) F dX3_seenAgo_27 rfl ?_
    exact hret (0 : Int32) vg _ _ h dX3_seenAgo_28
  · have h := h.2 c9
    refine z_iload_n F dX3_seenAgo_5 rfl 2 rfl ?_
    refine z_bipush (v := 9) F dX3_seenAgo_6 rfl ?_
    refine z_icmp_gt 27 F dX3_seenAgo_8 (by decide) (fun c9 => ?_) (fun c9 => ?_)
    · have h := h.1 c9
      refine z_iconst (v := 0) F dX3_seenAgo_27 rfl ?_
      exact hret (0 : Int32) vg _ _ h dX3_seenAgo_28
    · have h := h.2 c9
      refine z_aload_n F dX3_seenAgo_11 rfl 0 rfl ?_
      refine z_get (ci := 3) F iX3 0 rfl rfl 3 (by decide) f0 rfl rfl dX3_seenAgo_12 ?_
      refine z_iload_n F dX3_seenAgo_15 rfl 1 rfl ?_
      refine z_bipush (v := 9) F dX3_seenAgo_16 rfl ?_
      refine z_imul F dX3_seenAgo_18 ?_
      refine z_iload_n F dX3_seenAgo_19 rfl 2 rfl ?_
      refine z_iadd F dX3_seenAgo_20 ?_
      refine z_iconst (v := 1) F dX3_seenAgo_21 rfl ?_
      refine z_isub F dX3_seenAgo_22 ?_
      have h9 := h.1
      have h := h.2
      refine z_iald F 4 rfl h9 dX3_seenAgo_23 ?_
      refine z_goto 28 F dX3_seenAgo_24 (by decide) ?_
      exact hret ((Gr_past vg) ((((p1 * (9 : Int32)) + p2) - (1 : Int32))).toNatClampNeg) vg _ _ h dX3_seenAgo_28
abbrev rmX6_capped : Room := { frames := 0, cells := 0, slots := 0, locals := 0 }
set_option maxRecDepth 100000 in
set_option maxHeartbeats 4000000 in
theorem mX6_capped (G : ZG) (p0 : Int32) (Q : Int32 → Prop) (h : wpX6_capped p0 Q) : ZMi G yX6_capped wsX6_capped rmX6_capped [.int p0] ([]) (fun _ : Unit => []) (fun r _ => Q r) := by
  refine z_ofi (cc := cX6_capped) (N := 1) (lv := [(0, .int p0)]) (by decide) rfl (Nat.le_of_ble_eq_true rfl) rfl (fun E F hret => ?_)
  have F : ZF E 1 cX6_capped RX6 wsX6_capped rmX6_capped G := F
  skip
  unfold wpX6_capped at h
  refine z_iload_n F dX6_capped_0 rfl 0 rfl ?_
  refine z_sipush (v := 999) F dX6_capped_1 rfl ?_
  refine z_icmp_le 13 F dX6_capped_4 (by decide) (fun c9 => ?_) (fun c9 => ?_)
  · have h := h.1 c9
    refine z_iload_n F dX6_capped_13 rfl 0 rfl ?_
    exact hret p0 () _ _ h dX6_capped_14
  · have h := h.2 c9
    refine z_sipush (v := 999) F dX6_capped_7 rfl ?_
    refine z_goto 14 F dX6_capped_10 (by decide) ?_
    exact hret (999 : Int32) () _ _ h dX6_capped_14
abbrev rmX3_seenToday : Room := { frames := 1, cells := 0, slots := 0, locals := 22 }
set_option maxRecDepth 100000 in
set_option maxHeartbeats 4000000 in
theorem mX3_seenToday (G : ZG) (a : Nat → Nat) (vg : Gr) (p1 : Int32) (p2 : Int32) (Q : Int32 → Gr → Prop) (h : wpX3_seenToday vg p1 p2 Q) : ZMi G yX3_seenToday wsX3_seenToday rmX3_seenToday [.ref (a 0), .int p1, .int p2] (w_Gr G a vg) (fun vg : Gr => w_Gr G a vg) (Q) := by
  refine z_ofi (cc := cX3_seenToday) (N := 5) (lv := [(0, .ref (a 0)), (1, .int p1), (2, .int p2)]) (by decide) rfl (Nat.le_of_ble_eq_true rfl) rfl (fun E F hret => ?_)
  have F : ZF E 5 cX3_seenToday RX3 wsX3_seenToday rmX3_seenToday G := F
  have f0 : ZW E (.fieldLink RX3 24 "ColourEcho$Gorge" "today" "[I") := F.at 1 rfl
  have f1 : ZW E (.fieldLink RX3 46 "ColourEcho$Gorge" "fog" "Z") := F.at 2 rfl
  have f2 : ZW E (.fieldLink RX3 50 "ColourEcho$Gorge" "snow" "Z") := F.at 3 rfl
  have f3 : ZW E (.initialized RX6) := F.at 13 rfl
  have f4 : ZW E (.static yX6_capped) := F.at 12 rfl
  have f5 : ZW E (.fieldLink RX3 9 "ColourEcho$Gorge" "off" "[I") := F.at 4 rfl
  have f6 : ZW E (.fieldLink RX3 15 "ColourEcho$Gorge" "keeps" "[I") := F.at 5 rfl
  have iX3 : ∀ x ∈ u_ws RX3 TX3 13, x ∈ wsX3_seenToday := fun _ h => List.mem_cons_of_mem _ (List.mem_append_right _ h)
  have t64 : ∀ (vg : Gr) (x3 : Int32), wpX3_seenToday_B64 Q vg x3 → Z E 5 0 0 (w_Gr G a vg) [(3, .int x3)] 64 [] := by
    intro vg x3 h
    unfold wpX3_seenToday_B64 at h
    refine z_iload_n F dX3_seenToday_64 rfl 0 rfl ?_
    refine z_callNi (fun _ => w_Gr G a vg) F (mX6_capped G x3 _ h) gX3_seenToday_X6_capped_n70 (List.mem_of_getElem? (i := 10) rfl) f3 f4 rfl hdX6_capped ⟨rfl, rfl, Nat.le_of_ble_eq_true rfl, Nat.le_of_ble_eq_true rfl, Nat.le_of_ble_eq_true rfl, Nat.le_of_ble_eq_true rfl⟩ [] [0, 1, 2, 3, 4, 5, 6, 7] [0, 1, 2, 3, 4, 5, 6, 7] rfl rfl (by decide) (fun _ => rfl) rfl (Nat.le_of_ble_eq_true rfl) dX3_seenToday_65 (fun r_2 u9 h => ?_)
    exact hret r_2 vg _ _ h dX3_seenToday_68
  have t26 : ∀ (n : Nat) (vg : Gr) (x1 : Int32) (x3 : Int32) (x4 : Int32), wpX3_seenToday_L26 Q n vg x1 x3 x4 → Z E 5 0 0 (w_Gr G a vg) [(0, .ref (a 0)), (1, .int x1), (3, .int x3), (4, .int x4)] 26 [] := by
    intro n
    induction n with
    | zero => intro vg x1 x3 x4 h; exact h.elim
    | succ n ihQ =>
      have ih26 : ∀ (vg : Gr) (x1 : Int32) (x3 : Int32) (x4 : Int32), wpX3_seenToday_L26 Q n vg x1 x3 x4 → Z E 5 0 0 (w_Gr G a vg) [(0, .ref (a 0)), (1, .int x1), (3, .int x3), (4, .int x4)] 26 [] := ihQ
      intro vg x1 x3 x4 h
      have h : wpX3_seenToday_H26 Q (wpX3_seenToday_L26 Q n) vg x1 x3 x4 := h
      generalize wpX3_seenToday_L26 Q n = K26 at h ih26
      clear ihQ
      unfold wpX3_seenToday_H26 at h
      refine z_iload F dX3_seenToday_26 3 rfl ?_
      refine z_iconst (v := 4) F dX3_seenToday_28 rfl ?_
      refine z_icmp_ge 64 F dX3_seenToday_29 (by decide) (fun c9 => ?_) (fun c9 => ?_)
      · have h := h.1 c9
        exact z_lv [2] rfl (t64 vg x3 h)
      · have h := h.2 c9
        refine z_iload_n F dX3_seenToday_32 rfl 2 rfl ?_
        refine z_aload_n F dX3_seenToday_33 rfl 0 rfl ?_
        refine z_iload_n F dX3_seenToday_34 rfl 1 rfl ?_
        refine z_aload_n F dX3_seenToday_35 rfl 0 rfl ?_
        refine z_get (ci := 3) F iX3 0 rfl rfl 0 (by decide) f5 rfl rfl dX3_seenToday_36 ?_
        refine z_iload F dX3_seenToday_39 3 rfl ?_
        have h9 := h.1
        have h := h.2
        refine z_iald F 1 rfl h9 dX3_seenToday_41 ?_
        refine z_callVi (fun u9 => w_Gr G a u9) F (mX3_seenAgo G a vg x1 ((Gr_off vg) (x4).toNatClampNeg) _ h) gX3_seenToday_X3_seenAgo rfl hdX3_seenAgo ⟨rfl, rfl, Nat.le_of_ble_eq_true rfl, Nat.le_of_ble_eq_true rfl, Nat.le_of_ble_eq_true rfl, Nat.le_of_ble_eq_true rfl⟩ 0 rfl rfl [0, 1, 2, 3, 4, 5, 6, 7] [] [0, 1, 2, 3, 4, 5, 6, 7] rfl rfl (by decide) (fun _ => rfl) rfl (Nat.le_of_ble_eq_true rfl) dX3_seenToday_42 (fun r_3 vg_4 h => ?_)
        refine z_aload_n F dX3_seenToday_45 rfl 0 rfl ?_
        refine z_get (ci := 3) F iX3 0 rfl rfl 1 (by decide) f6 rfl rfl dX3_seenToday_46 ?_
        refine z_iload F dX3_seenToday_49 3 rfl ?_
        have h9 := h.1
        have h := h.2
        refine z_iald F 2 rfl h9 dX3_seenToday_51 ?_
        refine z_imul F dX3_seenToday_52 ?_
        refine z_bipush (v := 10) F dX3_seenToday_53 rfl ?_
        refine z_idiv F dX3_seenToday_55 (by decide) ?_
        refine z_iadd F dX3_seenToday_56 ?_
        refine z_topi (fun x3_5 e9 => ?_)
        have h := h x3_5 e9
        refine z_istore_n [(3, .int x3_5), (0, .ref (a 0)), (1, .int x1), (4, .int x4)] F dX3_seenToday_57 rfl (by decide) rfl ?_
        obtain ⟨x4_6, e9⟩ : ∃ z : Int32, z = x4 + 1 := ⟨_, rfl⟩
        have h := h x4_6 e9
        refine z_iinc (v := x4_6) [(4, .int x4_6), (3, .int x3_5), (0, .ref (a 0)), (1, .int x1)] F dX3_seenToday_58 3 rfl (by rw [e9]; rfl) (by decide) rfl ?_
        refine z_goto 26 F dX3_seenToday_61 (by decide) ?_
        exact z_lv [2, 3, 1, 0] rfl (ih26 vg_4 x1 x3_5 x4_6 h)
  unfold wpX3_seenToday at h
  refine z_aload_n F dX3_seenToday_0 rfl 0 rfl ?_
  refine z_get (ci := 3) F iX3 0 rfl rfl 4 (by decide) f0 rfl rfl dX3_seenToday_1 ?_
  refine z_iload_n F dX3_seenToday_4 rfl 1 rfl ?_
  have h9 := h.1
  have h := h.2
  refine z_iald F 5 rfl h9 dX3_seenToday_5 ?_
  refine z_iload_n F dX3_seenToday_6 rfl 2 rfl ?_
  refine z_iadd F dX3_seenToday_7 ?_
  refine z_topi (fun x3_1 e9 => ?_)
  have h := h x3_1 e9
  refine z_istore_n [(3, .int x3_1), (0, .ref (a 0)), (1, .int p1), (2, .int p2)] F dX3_seenToday_8 rfl (by decide) rfl ?_
  refine z_aload_n F dX3_seenToday_9 rfl 1 rfl ?_
  refine z_get (ci := 3) F iX3 0 rfl rfl 11 (by decide) f1 rfl rfl dX3_seenToday_10 ?_
  refine z_if_ne 64 F dX3_seenToday_13 (by decide) (fun c9 => ?_) (fun c9 => ?_)
  · have h := h.1 c9
    exact z_lv [0] rfl (t64 vg x3_1 h)
  · have h := h.2 c9
    refine z_aload_n F dX3_seenToday_16 rfl 1 rfl ?_
    refine z_get (ci := 3) F iX3 0 rfl rfl 12 (by decide) f2 rfl rfl dX3_seenToday_17 ?_
    refine z_if_ne 64 F dX3_seenToday_20 (by decide) (fun c9 => ?_) (fun c9 => ?_)
    · have h := h.1 c9
      exact z_lv [0] rfl (t64 vg x3_1 h)
    · have h := h.2 c9
      refine z_iconst (v := 0) F dX3_seenToday_23 rfl ?_
      refine z_istore [(4, .int (0 : Int32)), (3, .int x3_1), (0, .ref (a 0)), (1, .int p1), (2, .int p2)] F dX3_seenToday_24 (by decide) rfl ?_
      obtain ⟨n9, h⟩ := h
      exact z_lv [2, 3, 1, 0] rfl (t26 n9 vg p1 x3_1 (0 : Int32) h)
abbrev rmX0_fromNow : Room := { frames := 2, cells := 0, slots := 0, locals := 46 }
set_option maxRecDepth 100000 in
set_option maxHeartbeats 4000000 in
theorem mX0_fromNow (G : ZG) (a : Nat → Nat) (ab : Nat → Nat) (vc : Co) (vg : Gr) (p2 : Int32) (p3 : Int32) (Q : Co → Gr → Prop) (h : wpX0_fromNow vc vg p2 p3 Q) : ZMv G yX0_fromNow wsX0_fromNow rmX0_fromNow [.ref (a 0), .ref (ab 0), .int p2, .int p3] (w_Co_Gr G a ab vc vg) (fun u9 : Co × Gr => w_Co_Gr G a ab u9.1 u9.2) (fun u9 => Q u9.1 u9.2) := by
  refine z_ofv (cc := cX0_fromNow) (N := 5) (lv := [(0, .ref (a 0)), (1, .ref (ab 0)), (2, .int p2), (3, .int p3)]) (by decide) rfl (Nat.le_of_ble_eq_true rfl) rfl (fun E F hret => ?_)
  have F : ZF E 5 cX0_fromNow RX0 wsX0_fromNow rmX0_fromNow G := F
  have f0 : ZW E (.fieldLink RX0 11 "ColourEcho$Course" "row" "[I") := F.at 1 rfl
  have f1 : ZW E (.fieldLink RX0 15 "ColourEcho$Gorge" "snow" "Z") := F.at 2 rfl
  have iX0 : ∀ x ∈ u_ws RX0 TX0 1, x ∈ wsX0_fromNow := fun _ h => List.mem_cons_of_mem _ (List.mem_append_left _ (List.mem_append_right _ h))
  have iX3 : ∀ x ∈ u_ws RX3 TX3 13, x ∈ wsX0_fromNow := fun _ h => List.mem_cons_of_mem _ (List.mem_append_right _ h)
  have t37 : ∀ (K3 : Co → Gr → Int32 → Int32 → Int32 → Prop) (ih3 : ∀ (vc : Co) (vg : Gr) (x2 : Int32) (x3 : Int32) (x4 : Int32), K3 vc vg x2 x3 x4 → Z E 5 0 0 (w_Co_Gr G a ab vc vg) [(0, .ref (a 0)), (1, .ref (ab 0)), (2, .int x2), (3, .int x3), (4, .int x4)] 3 []) (vc : Co) (vg : Gr) (x2 : Int32) (x3 : Int32) (x4 : Int32) (s1 : Int32) (s2 : Int32), wpX0_fromNow_B37 Q K3 vc vg x2 x3 x4 s1 s2 → Z E 5 0 0 (w_Co_Gr G a ab vc vg) [(0, .ref (a 0)), (1, .ref (ab 0)), (2, .int x2), (3, .int x3), (4, .int x4)] 37 [.int s2, .int s1, .ref (a 1)] := by
    intro K3 ih3 vc vg x2 x3 x4 s1 s2 h
    unfold wpX0_fromNow_B37 at h
    have h9 := h.1
    have h := h.2
    refine z_iast (w_Co_Gr G a ab (Co_s_row vc (upd (Co_row vc) (s1).toNatClampNeg s2)) vg) F 1 rfl h9 rfl dX0_fromNow_37 ?_
    obtain ⟨x4_5, e9⟩ : ∃ z : Int32, z = x4 + 1 := ⟨_, rfl⟩
    have h := h x4_5 e9
    refine z_iinc (v := x4_5) [(4, .int x4_5), (0, .ref (a 0)), (1, .ref (ab 0)), (2, .int x2), (3, .int x3)] F dX0_fromNow_38 4 rfl (by rw [e9]; rfl) (by decide) rfl ?_
    refine z_goto 3 F dX0_fromNow_41 (by decide) ?_
    exact z_lv [1, 2, 3, 4, 0] rfl (ih3 (Co_s_row vc (upd (Co_row vc) (s1).toNatClampNeg s2)) vg x2 x3 x4_5 h)
  have t3 : ∀ (n : Nat) (vc : Co) (vg : Gr) (x2 : Int32) (x3 : Int32) (x4 : Int32), wpX0_fromNow_L3 Q n vc vg x2 x3 x4 → Z E 5 0 0 (w_Co_Gr G a ab vc vg) [(0, .ref (a 0)), (1, .ref (ab 0)), (2, .int x2), (3, .int x3), (4, .int x4)] 3 [] := by
    intro n
    induction n with
    | zero => intro vc vg x2 x3 x4 h; exact h.elim
    | succ n ihQ =>
      have ih3 : ∀ (vc : Co) (vg : Gr) (x2 : Int32) (x3 : Int32) (x4 : Int32), wpX0_fromNow_L3 Q n vc vg x2 x3 x4 → Z E 5 0 0 (w_Co_Gr G a ab vc vg) [(0, .ref (a 0)), (1, .ref (ab 0)), (2, .int x2), (3, .int x3), (4, .int x4)] 3 [] := ihQ
      intro vc vg x2 x3 x4 h
      have h : wpX0_fromNow_H3 Q (wpX0_fromNow_L3 Q n) vc vg x2 x3 x4 := h
      generalize wpX0_fromNow_L3 Q n = K3 at h ih3
      clear ihQ
      unfold wpX0_fromNow_H3 at h
      refine z_iload F dX0_fromNow_3 4 rfl ?_
      refine z_bipush (v := 9) F dX0_fromNow_5 rfl ?_
      refine z_icmp_gt 44 F dX0_fromNow_7 (by decide) (fun c9 => ?_) (fun c9 => ?_)
      · have h := h.1 c9
        refine z_aload_n F dX0_fromNow_44 rfl 0 rfl ?_
        refine z_get (ci := 0) F iX0 0 rfl rfl 0 (by decide) f0 rfl rfl dX0_fromNow_45 ?_
        refine z_bipush (v := 9) F dX0_fromNow_48 rfl ?_
        refine z_aload_n F dX0_fromNow_50 rfl 1 rfl ?_
        refine z_iload_n F dX0_fromNow_51 rfl 2 rfl ?_
        refine z_iload_n F dX0_fromNow_52 rfl 3 rfl ?_
        refine z_callVi (fun u9 => w_Co_Gr G a ab vc u9) F (mX3_seenToday G ab vg x2 x3 _ h) gX0_fromNow_X3_seenToday rfl hdX3_seenToday ⟨rfl, rfl, Nat.le_of_ble_eq_true rfl, Nat.le_of_ble_eq_true rfl, Nat.le_of_ble_eq_true rfl, Nat.le_of_ble_eq_true rfl⟩ 2 rfl rfl [2, 3, 4, 5, 6, 7, 8, 9] [0, 1] [0, 1, 2, 3, 4, 5, 6, 7, 8, 9] rfl rfl (by decide) (fun _ => rfl) rfl (Nat.le_of_ble_eq_true rfl) dX0_fromNow_53 (fun r_1 vg_2 h => ?_)
        have h9 := h.1
        have h := h.2
        refine z_iast (w_Co_Gr G a ab (Co_s_row vc (upd (Co_row vc) ((9 : Int32)).toNatClampNeg r_1)) vg_2) F 1 rfl h9 rfl dX0_fromNow_56 ?_
        exact hret ((Co_s_row vc (upd (Co_row vc) ((9 : Int32)).toNatClampNeg r_1)), vg_2) _ _ h dX0_fromNow_57
      · have h := h.2 c9
        refine z_aload_n F dX0_fromNow_10 rfl 0 rfl ?_
        refine z_get (ci := 0) F iX0 0 rfl rfl 0 (by decide) f0 rfl rfl dX0_fromNow_11 ?_
        refine z_bipush (v := 9) F dX0_fromNow_14 rfl ?_
        refine z_iload F dX0_fromNow_16 4 rfl ?_
        refine z_isub F dX0_fromNow_18 ?_
        refine z_aload_n F dX0_fromNow_19 rfl 1 rfl ?_
        refine z_get (ci := 3) F iX3 2 rfl rfl 12 (by decide) f1 rfl rfl dX0_fromNow_20 ?_
        refine z_if_eq 30 F dX0_fromNow_23 (by decide) (fun c9 => ?_) (fun c9 => ?_)
        · have h := h.1 c9
          refine z_aload_n F dX0_fromNow_30 rfl 1 rfl ?_
          refine z_iload_n F dX0_fromNow_31 rfl 2 rfl ?_
          refine z_iload F dX0_fromNow_32 4 rfl ?_
          refine z_callVi (fun u9 => w_Co_Gr G a ab vc u9) F (mX3_seenAgo G ab vg x2 x4 _ h) gX0_fromNow_X3_seenAgo rfl hdX3_seenAgo ⟨rfl, rfl, Nat.le_of_ble_eq_true rfl, Nat.le_of_ble_eq_true rfl, Nat.le_of_ble_eq_true rfl, Nat.le_of_ble_eq_true rfl⟩ 2 rfl rfl [2, 3, 4, 5, 6, 7, 8, 9] [0, 1] [0, 1, 2, 3, 4, 5, 6, 7, 8, 9] rfl rfl (by decide) (fun _ => rfl) rfl (Nat.le_of_ble_eq_true rfl) dX0_fromNow_34 (fun r_3 vg_4 h => ?_)
          exact z_lv [0, 1, 2, 3, 4] rfl (t37 K3 ih3 vc vg_4 x2 x3 x4 ((9 : Int32) - x4) r_3 h)
        · have h := h.2 c9
          refine z_iconst (v := 0) F dX0_fromNow_26 rfl ?_
          refine z_goto 37 F dX0_fromNow_27 (by decide) ?_
          exact z_lv [0, 1, 2, 3, 4] rfl (t37 K3 ih3 vc vg x2 x3 x4 ((9 : Int32) - x4) (0 : Int32) h)
  unfold wpX0_fromNow at h
  refine z_iconst (v := 1) F dX0_fromNow_0 rfl ?_
  refine z_istore [(4, .int (1 : Int32)), (0, .ref (a 0)), (1, .ref (ab 0)), (2, .int p2), (3, .int p3)] F dX0_fromNow_1 (by decide) rfl ?_
  obtain ⟨n9, h⟩ := h
  exact z_lv [1, 2, 3, 4, 0] rfl (t3 n9 vc vg p2 p3 (1 : Int32) h)
abbrev rmX0_fromNothing : Room := { frames := 1, cells := 0, slots := 0, locals := 20 }
set_option maxRecDepth 100000 in
set_option maxHeartbeats 4000000 in
theorem mX0_fromNothing (G : ZG) (a : Nat → Nat) (vc : Co) (p1 : Int32) (Q : Co → Prop) (h : wpX0_fromNothing vc p1 Q) : ZMv G yX0_fromNothing wsX0_fromNothing rmX0_fromNothing [.ref (a 0), .int p1] (w_Co G a vc) (fun vc : Co => w_Co G a vc) (Q) := by
  refine z_ofv (cc := cX0_fromNothing) (N := 3) (lv := [(0, .ref (a 0)), (1, .int p1)]) (by decide) rfl (Nat.le_of_ble_eq_true rfl) rfl (fun E F hret => ?_)
  have F : ZF E 3 cX0_fromNothing RX0 wsX0_fromNothing rmX0_fromNothing G := F
  have f0 : ZW E (.fieldLink RX0 11 "ColourEcho$Course" "row" "[I") := F.at 1 rfl
  have f1 : ZW E (.initialized RX6) := F.at 3 rfl
  have f2 : ZW E (.static yX6_capped) := F.at 2 rfl
  have iX0 : ∀ x ∈ u_ws RX0 TX0 1, x ∈ wsX0_fromNothing := fun _ h => List.mem_cons_of_mem _ (List.mem_append_right _ h)
  have t2 : ∀ (n : Nat) (vc : Co) (x1 : Int32) (x2 : Int32), wpX0_fromNothing_L2 Q n vc x1 x2 → Z E 3 0 0 (w_Co G a vc) [(0, .ref (a 0)), (1, .int x1), (2, .int x2)] 2 [] := by
    intro n
    induction n with
    | zero => intro vc x1 x2 h; exact h.elim
    | succ n ihQ =>
      have ih2 : ∀ (vc : Co) (x1 : Int32) (x2 : Int32), wpX0_fromNothing_L2 Q n vc x1 x2 → Z E 3 0 0 (w_Co G a vc) [(0, .ref (a 0)), (1, .int x1), (2, .int x2)] 2 [] := ihQ
      intro vc x1 x2 h
      have h : wpX0_fromNothing_H2 Q (wpX0_fromNothing_L2 Q n) vc x1 x2 := h
      generalize wpX0_fromNothing_L2 Q n = K2 at h ih2
      clear ihQ
      unfold wpX0_fromNothing_H2 at h
      refine z_iload_n F dX0_fromNothing_2 rfl 2 rfl ?_
      refine z_bipush (v := 9) F dX0_fromNothing_3 rfl ?_
      refine z_icmp_gt 24 F dX0_fromNothing_5 (by decide) (fun c9 => ?_) (fun c9 => ?_)
      · have h := h.1 c9
        refine z_aload_n F dX0_fromNothing_24 rfl 0 rfl ?_
        refine z_get (ci := 0) F iX0 0 rfl rfl 0 (by decide) f0 rfl rfl dX0_fromNothing_25 ?_
        refine z_bipush (v := 9) F dX0_fromNothing_28 rfl ?_
        refine z_iload_n F dX0_fromNothing_30 rfl 1 rfl ?_
        refine z_callNi (fun _ => w_Co G a vc) F (mX6_capped G x1 _ h) gX0_fromNothing_X6_capped_n28 (List.mem_of_getElem? (i := 12) rfl) f1 f2 rfl hdX6_capped ⟨rfl, rfl, Nat.le_of_ble_eq_true rfl, Nat.le_of_ble_eq_true rfl, Nat.le_of_ble_eq_true rfl, Nat.le_of_ble_eq_true rfl⟩ [] [0, 1] [0, 1] rfl rfl (by decide) (fun _ => rfl) rfl (Nat.le_of_ble_eq_true rfl) dX0_fromNothing_31 (fun r_1 u9 h => ?_)
        have h9 := h.1
        have h := h.2
        refine z_iast (w_Co G a (Co_s_row vc (upd (Co_row vc) ((9 : Int32)).toNatClampNeg r_1))) F 1 rfl h9 rfl dX0_fromNothing_34 ?_
        exact hret (Co_s_row vc (upd (Co_row vc) ((9 : Int32)).toNatClampNeg r_1)) _ _ h dX0_fromNothing_35
      · have h := h.2 c9
        refine z_aload_n F dX0_fromNothing_8 rfl 0 rfl ?_
        refine z_get (ci := 0) F iX0 0 rfl rfl 0 (by decide) f0 rfl rfl dX0_fromNothing_9 ?_
        refine z_bipush (v := 9) F dX0_fromNothing_12 rfl ?_
        refine z_iload_n F dX0_fromNothing_14 rfl 2 rfl ?_
        refine z_isub F dX0_fromNothing_15 ?_
        refine z_iconst (v := 0) F dX0_fromNothing_16 rfl ?_
        have h9 := h.1
        have h := h.2
        refine z_iast (w_Co G a (Co_s_row vc (upd (Co_row vc) (((9 : Int32) - x2)).toNatClampNeg (0 : Int32)))) F 1 rfl h9 rfl dX0_fromNothing_17 ?_
        obtain ⟨x2_2, e9⟩ : ∃ z : Int32, z = x2 + 1 := ⟨_, rfl⟩
        have h := h x2_2 e9
        refine z_iinc (v := x2_2) [(2, .int x2_2), (0, .ref (a 0)), (1, .int x1)] F dX0_fromNothing_18 2 rfl (by rw [e9]; rfl) (by decide) rfl ?_
        refine z_goto 2 F dX0_fromNothing_21 (by decide) ?_
        exact z_lv [1, 2, 0] rfl (ih2 (Co_s_row vc (upd (Co_row vc) (((9 : Int32) - x2)).toNatClampNeg (0 : Int32))) x1 x2_2 h)
  unfold wpX0_fromNothing at h
  refine z_iconst (v := 1) F dX0_fromNothing_0 rfl ?_
  refine z_istore_n [(2, .int (1 : Int32)), (0, .ref (a 0)), (1, .int p1)] F dX0_fromNothing_1 rfl (by decide) rfl ?_
  obtain ⟨n9, h⟩ := h
  exact z_lv [1, 2, 0] rfl (t2 n9 vc p1 (1 : Int32) h)
abbrev rmX6_has : Room := { frames := 0, cells := 0, slots := 0, locals := 0 }
set_option maxRecDepth 100000 in
set_option maxHeartbeats 4000000 in
theorem mX6_has (G : ZG) (p0 : Int32) (p1 : Int32) (Q : Int32 → Prop) (h : wpX6_has p0 p1 Q) : ZMi G yX6_has wsX6_has rmX6_has [.int p0, .int p1] ([]) (fun _ : Unit => []) (fun r _ => Q r) := by
  refine z_ofz (cc := cX6_has) (N := 2) (lv := [(0, .int p0), (1, .int p1)]) (by decide) rfl (Nat.le_of_ble_eq_true rfl) rfl (fun E F hret => ?_)
  have F : ZF E 2 cX6_has RX6 wsX6_has rmX6_has G := F
  skip
  unfold wpX6_has at h
  refine z_iload_n F dX6_has_0 rfl 0 rfl ?_
  refine z_iload_n F dX6_has_1 rfl 1 rfl ?_
  refine z_ishr F dX6_has_2 ?_
  refine z_iconst (v := 1) F dX6_has_3 rfl ?_
  refine z_iand F dX6_has_4 ?_
  refine z_iconst (v := 1) F dX6_has_5 rfl ?_
  refine z_icmp_ne 13 F dX6_has_6 (by decide) (fun c9 => ?_) (fun c9 => ?_)
  · have h := h.1 c9
    refine z_iconst (v := 0) F dX6_has_13 rfl ?_
    exact hret (0 : Int32) () _ _ h dX6_has_14 (by decide)
  · have h := h.2 c9
    refine z_iconst (v := 1) F dX6_has_9 rfl ?_
    refine z_goto 14 F dX6_has_10 (by decide) ?_
    exact hret (1 : Int32) () _ _ h dX6_has_14 (by decide)
abbrev rmX0_offWalls : Room := { frames := 1, cells := 0, slots := 0, locals := 20 }
set_option maxRecDepth 100000 in
set_option maxHeartbeats 4000000 in
theorem mX0_offWalls (G : ZG) (a : Nat → Nat) (ab : Nat → Nat) (vc : Co) (vg : Gr) (p2 : Int32) (Q : Int32 → Co → Gr → Prop) (h : wpX0_offWalls vc vg p2 Q) : ZMi G yX0_offWalls wsX0_offWalls rmX0_offWalls [.ref (a 0), .ref (ab 0), .int p2] (w_Co_Gr G a ab vc vg) (fun u9 : Co × Gr => w_Co_Gr G a ab u9.1 u9.2) (fun r u9 => Q r u9.1 u9.2) := by
  refine z_ofi (cc := cX0_offWalls) (N := 6) (lv := [(0, .ref (a 0)), (1, .ref (ab 0)), (2, .int p2)]) (by decide) rfl (Nat.le_of_ble_eq_true rfl) rfl (fun E F hret => ?_)
  have F : ZF E 6 cX0_offWalls RX0 wsX0_offWalls rmX0_offWalls G := F
  have f0 : ZW E (.initialized RX6) := F.at 5 rfl
  have f1 : ZW E (.static yX6_capped) := F.at 4 rfl
  have f2 : ZW E (.fieldLink RX0 40 "ColourEcho$Gorge" "off" "[I") := F.at 1 rfl
  have f3 : ZW E (.fieldLink RX0 11 "ColourEcho$Course" "row" "[I") := F.at 2 rfl
  have f4 : ZW E (.fieldLink RX0 43 "ColourEcho$Gorge" "keeps" "[I") := F.at 3 rfl
  have iX0 : ∀ x ∈ u_ws RX0 TX0 1, x ∈ wsX0_offWalls := fun _ h => List.mem_cons_of_mem _ (List.mem_append_right _ h)
  have iX3 : ∀ x ∈ u_ws RX3 TX3 13, x ∈ wsX0_offWalls := fun _ h => List.mem_cons_of_mem _ (List.mem_append_left _ (List.mem_append_right _ h))
  have t56 : ∀ (K5 : Co → Gr → Int32 → Int32 → Int32 → Prop) (ih5 : ∀ (vc : Co) (vg : Gr) (x2 : Int32) (x3 : Int32) (x4 : Int32), K5 vc vg x2 x3 x4 → Z E 6 0 0 (w_Co_Gr G a ab vc vg) [(0, .ref (a 0)), (1, .ref (ab 0)), (2, .int x2), (3, .int x3), (4, .int x4)] 5 []) (vc : Co) (vg : Gr) (x2 : Int32) (x4 : Int32) (s0 : Int32) (s1 : Int32), wpX0_offWalls_B56 Q K5 vc vg x2 x4 s0 s1 → Z E 6 0 0 (w_Co_Gr G a ab vc vg) [(0, .ref (a 0)), (1, .ref (ab 0)), (2, .int x2), (4, .int x4)] 56 [.int s1, .int s0] := by
    intro K5 ih5 vc vg x2 x4 s0 s1 h
    unfold wpX0_offWalls_B56 at h
    refine z_iadd F dX0_offWalls_56 ?_
    refine z_topi (fun x3_3 e9 => ?_)
    have h := h x3_3 e9
    refine z_istore_n [(3, .int x3_3), (0, .ref (a 0)), (1, .ref (ab 0)), (2, .int x2), (4, .int x4)] F dX0_offWalls_57 rfl (by decide) rfl ?_
    obtain ⟨x4_4, e9⟩ : ∃ z : Int32, z = x4 + 1 := ⟨_, rfl⟩
    have h := h x4_4 e9
    refine z_iinc (v := x4_4) [(4, .int x4_4), (3, .int x3_3), (0, .ref (a 0)), (1, .ref (ab 0)), (2, .int x2)] F dX0_offWalls_58 4 rfl (by rw [e9]; rfl) (by decide) rfl ?_
    refine z_goto 5 F dX0_offWalls_61 (by decide) ?_
    exact z_lv [2, 3, 4, 1, 0] rfl (ih5 vc vg x2 x3_3 x4_4 h)
  have t55 : ∀ (K5 : Co → Gr → Int32 → Int32 → Int32 → Prop) (ih5 : ∀ (vc : Co) (vg : Gr) (x2 : Int32) (x3 : Int32) (x4 : Int32), K5 vc vg x2 x3 x4 → Z E 6 0 0 (w_Co_Gr G a ab vc vg) [(0, .ref (a 0)), (1, .ref (ab 0)), (2, .int x2), (3, .int x3), (4, .int x4)] 5 []) (vc : Co) (vg : Gr) (x2 : Int32) (x4 : Int32) (s0 : Int32), wpX0_offWalls_B55 Q K5 vc vg x2 x4 s0 → Z E 6 0 0 (w_Co_Gr G a ab vc vg) [(0, .ref (a 0)), (1, .ref (ab 0)), (2, .int x2), (4, .int x4)] 55 [.int s0] := by
    intro K5 ih5 vc vg x2 x4 s0 h
    unfold wpX0_offWalls_B55 at h
    refine z_iconst (v := 0) F dX0_offWalls_55 rfl ?_
    exact z_lv [0, 1, 2, 3] rfl (t56 K5 ih5 vc vg x2 x4 s0 (0 : Int32) h)
  have t5 : ∀ (n : Nat) (vc : Co) (vg : Gr) (x2 : Int32) (x3 : Int32) (x4 : Int32), wpX0_offWalls_L5 Q n vc vg x2 x3 x4 → Z E 6 0 0 (w_Co_Gr G a ab vc vg) [(0, .ref (a 0)), (1, .ref (ab 0)), (2, .int x2), (3, .int x3), (4, .int x4)] 5 [] := by
    intro n
    induction n with
    | zero => intro vc vg x2 x3 x4 h; exact h.elim
    | succ n ihQ =>
      have ih5 : ∀ (vc : Co) (vg : Gr) (x2 : Int32) (x3 : Int32) (x4 : Int32), wpX0_offWalls_L5 Q n vc vg x2 x3 x4 → Z E 6 0 0 (w_Co_Gr G a ab vc vg) [(0, .ref (a 0)), (1, .ref (ab 0)), (2, .int x2), (3, .int x3), (4, .int x4)] 5 [] := ihQ
      intro vc vg x2 x3 x4 h
      have h : wpX0_offWalls_H5 Q (wpX0_offWalls_L5 Q n) vc vg x2 x3 x4 := h
      generalize wpX0_offWalls_L5 Q n = K5 at h ih5
      clear ihQ
      unfold wpX0_offWalls_H5 at h
      refine z_iload F dX0_offWalls_5 4 rfl ?_
      refine z_iconst (v := 4) F dX0_offWalls_7 rfl ?_
      refine z_icmp_ge 64 F dX0_offWalls_8 (by decide) (fun c9 => ?_) (fun c9 => ?_)
      · have h := h.1 c9
        refine z_iload_n F dX0_offWalls_64 rfl 3 rfl ?_
        refine z_callNi (fun _ => w_Co_Gr G a ab vc vg) F (mX6_capped G x3 _ h) gX0_offWalls_X6_capped_n28 (List.mem_of_getElem? (i := 12) rfl) f0 f1 rfl hdX6_capped ⟨rfl, rfl, Nat.le_of_ble_eq_true rfl, Nat.le_of_ble_eq_true rfl, Nat.le_of_ble_eq_true rfl, Nat.le_of_ble_eq_true rfl⟩ [] [0, 1, 2, 3, 4, 5, 6, 7, 8, 9] [0, 1, 2, 3, 4, 5, 6, 7, 8, 9] rfl rfl (by decide) (fun _ => rfl) rfl (Nat.le_of_ble_eq_true rfl) dX0_offWalls_65 (fun r_1 u9 h => ?_)
        exact hret r_1 (vc, vg) _ _ h dX0_offWalls_68
      · have h := h.2 c9
        refine z_iload_n F dX0_offWalls_11 rfl 2 rfl ?_
        refine z_aload_n F dX0_offWalls_12 rfl 1 rfl ?_
        refine z_get (ci := 3) F iX3 2 rfl rfl 0 (by decide) f2 rfl rfl dX0_offWalls_13 ?_
        refine z_iload F dX0_offWalls_16 4 rfl ?_
        have h9 := h.1
        have h := h.2
        refine z_iald F 3 rfl h9 dX0_offWalls_18 ?_
        refine z_isub F dX0_offWalls_19 ?_
        refine z_topi (fun x5_2 e9 => ?_)
        have h := h x5_2 e9
        refine z_istore [(5, .int x5_2), (0, .ref (a 0)), (1, .ref (ab 0)), (2, .int x2), (3, .int x3), (4, .int x4)] F dX0_offWalls_20 (by decide) rfl ?_
        refine z_iload_n F dX0_offWalls_22 rfl 4 rfl ?_
        refine z_iload F dX0_offWalls_23 0 rfl ?_
        refine z_if_lt 55 F dX0_offWalls_25 (by decide) (fun c9 => ?_) (fun c9 => ?_)
        · have h := h.1 c9
          exact z_lv [1, 2, 3, 5] rfl (t55 K5 ih5 vc vg x2 x4 x3 h)
        · have h := h.2 c9
          refine z_iload F dX0_offWalls_28 0 rfl ?_
          refine z_iload_n F dX0_offWalls_30 rfl 3 rfl ?_
          refine z_icmp_ge 55 F dX0_offWalls_31 (by decide) (fun c9 => ?_) (fun c9 => ?_)
          · have h := h.1 c9
            exact z_lv [1, 2, 3, 5] rfl (t55 K5 ih5 vc vg x2 x4 x3 h)
          · have h := h.2 c9
            refine z_aload_n F dX0_offWalls_34 rfl 1 rfl ?_
            refine z_get (ci := 0) F iX0 0 rfl rfl 0 (by decide) f3 rfl rfl dX0_offWalls_35 ?_
            refine z_iload F dX0_offWalls_38 0 rfl ?_
            have h9 := h.1
            have h := h.2
            refine z_iald F 1 rfl h9 dX0_offWalls_40 ?_
            refine z_aload_n F dX0_offWalls_41 rfl 2 rfl ?_
            refine z_get (ci := 3) F iX3 2 rfl rfl 1 (by decide) f4 rfl rfl dX0_offWalls_42 ?_
            refine z_iload F dX0_offWalls_45 5 rfl ?_
            have h9 := h.1
            have h := h.2
            refine z_iald F 4 rfl h9 dX0_offWalls_47 ?_
            refine z_imul F dX0_offWalls_48 ?_
            refine z_bipush (v := 10) F dX0_offWalls_49 rfl ?_
            refine z_idiv F dX0_offWalls_51 (by decide) ?_
            refine z_goto 56 F dX0_offWalls_52 (by decide) ?_
            exact z_lv [1, 2, 3, 5] rfl (t56 K5 ih5 vc vg x2 x4 x3 ((((Co_row vc) (x5_2).toNatClampNeg) * ((Gr_keeps vg) (x4).toNatClampNeg)) / (10 : Int32)) h)
  unfold wpX0_offWalls at h
  refine z_iconst (v := 0) F dX0_offWalls_0 rfl ?_
  refine z_istore_n [(3, .int (0 : Int32)), (0, .ref (a 0)), (1, .ref (ab 0)), (2, .int p2)] F dX0_offWalls_1 rfl (by decide) rfl ?_
  refine z_iconst (v := 0) F dX0_offWalls_2 rfl ?_
  refine z_istore [(4, .int (0 : Int32)), (3, .int (0 : Int32)), (0, .ref (a 0)), (1, .ref (ab 0)), (2, .int p2)] F dX0_offWalls_3 (by decide) rfl ?_
  obtain ⟨n9, h⟩ := h
  exact z_lv [2, 3, 4, 1, 0] rfl (t5 n9 vc vg p2 (0 : Int32) (0 : Int32) h)
abbrev rmX0_run : Room := { frames := 2, cells := 0, slots := 0, locals := 45 }
set_option maxRecDepth 100000 in
set_option maxHeartbeats 4000000 in
theorem mX0_run (G : ZG) (a : Nat → Nat) (ab : Nat → Nat) (vc : Co) (vg : Gr) (p2 : Int32) (p3 : Int32) (Q : Co → Gr → Prop) (h : wpX0_run vc vg p2 p3 Q) : ZMv G yX0_run wsX0_run rmX0_run [.ref (a 0), .ref (ab 0), .int p2, .int p3] (w_Co_Gr G a ab vc vg) (fun u9 : Co × Gr => w_Co_Gr G a ab u9.1 u9.2) (fun u9 => Q u9.1 u9.2) := by
  refine z_ofv (cc := cX0_run) (N := 6) (lv := [(0, .ref (a 0)), (1, .ref (ab 0)), (2, .int p2), (3, .int p3)]) (by decide) rfl (Nat.le_of_ble_eq_true rfl) rfl (fun E F hret => ?_)
  have F : ZF E 6 cX0_run RX0 wsX0_run rmX0_run G := F
  have f0 : ZW E (.initialized RX6) := F.at 3 rfl
  have f1 : ZW E (.static yX6_has) := F.at 2 rfl
  have f2 : ZW E (.fieldLink RX0 11 "ColourEcho$Course" "row" "[I") := F.at 1 rfl
  have iX0 : ∀ x ∈ u_ws RX0 TX0 1, x ∈ wsX0_run := fun _ h => List.mem_cons_of_mem _ (List.mem_append_left _ (List.mem_append_right _ h))
  have t69 : ∀ (K3 : Co → Gr → Int32 → Int32 → Int32 → Prop) (ih3 : ∀ (vc : Co) (vg : Gr) (x2 : Int32) (x3 : Int32) (x4 : Int32), K3 vc vg x2 x3 x4 → Z E 6 0 0 (w_Co_Gr G a ab vc vg) [(0, .ref (a 0)), (1, .ref (ab 0)), (2, .int x2), (3, .int x3), (4, .int x4)] 3 []) (vc : Co) (vg : Gr) (x2 : Int32) (x3 : Int32) (x4 : Int32) (s1 : Int32) (s2 : Int32), wpX0_run_B69 Q K3 vc vg x2 x3 x4 s1 s2 → Z E 6 0 0 (w_Co_Gr G a ab vc vg) [(0, .ref (a 0)), (1, .ref (ab 0)), (2, .int x2), (3, .int x3), (4, .int x4)] 69 [.int s2, .int s1, .ref (a 1)] := by
    intro K3 ih3 vc vg x2 x3 x4 s1 s2 h
    unfold wpX0_run_B69 at h
    have h9 := h.1
    have h := h.2
    refine z_iast (w_Co_Gr G a ab (Co_s_row vc (upd (Co_row vc) (s1).toNatClampNeg s2)) vg) F 1 rfl h9 rfl dX0_run_69 ?_
    obtain ⟨x4_5, e9⟩ : ∃ z : Int32, z = x4 + 1 := ⟨_, rfl⟩
    have h := h x4_5 e9
    refine z_iinc (v := x4_5) [(4, .int x4_5), (0, .ref (a 0)), (1, .ref (ab 0)), (2, .int x2), (3, .int x3)] F dX0_run_70 4 rfl (by rw [e9]; rfl) (by decide) rfl ?_
    refine z_goto 3 F dX0_run_73 (by decide) ?_
    exact z_lv [1, 2, 3, 4, 0] rfl (ih3 (Co_s_row vc (upd (Co_row vc) (s1).toNatClampNeg s2)) vg x2 x3 x4_5 h)
  have t39 : ∀ (K3 : Co → Gr → Int32 → Int32 → Int32 → Prop) (ih3 : ∀ (vc : Co) (vg : Gr) (x2 : Int32) (x3 : Int32) (x4 : Int32), K3 vc vg x2 x3 x4 → Z E 6 0 0 (w_Co_Gr G a ab vc vg) [(0, .ref (a 0)), (1, .ref (ab 0)), (2, .int x2), (3, .int x3), (4, .int x4)] 3 []) (vc : Co) (vg : Gr) (x2 : Int32) (x3 : Int32) (x4 : Int32) (s0 : Int32), wpX0_run_B39 Q K3 vc vg x2 x3 x4 s0 → Z E 6 0 0 (w_Co_Gr G a ab vc vg) [(0, .ref (a 0)), (1, .ref (ab 0)), (2, .int x2), (3, .int x3), (4, .int x4)] 39 [.int s0] := by
    intro K3 ih3 vc vg x2 x3 x4 s0 h
    unfold wpX0_run_B39 at h
    refine z_istore [(5, .int s0), (0, .ref (a 0)), (1, .ref (ab 0)), (2, .int x2), (3, .int x3), (4, .int x4)] F dX0_run_39 (by decide) rfl ?_
    refine z_aload_n F dX0_run_41 rfl 1 rfl ?_
    refine z_get (ci := 0) F iX0 0 rfl rfl 0 (by decide) f2 rfl rfl dX0_run_42 ?_
    refine z_bipush (v := 9) F dX0_run_45 rfl ?_
    refine z_iload F dX0_run_47 5 rfl ?_
    refine z_iadd F dX0_run_49 ?_
    refine z_iload F dX0_run_50 0 rfl ?_
    refine z_if_eq 59 F dX0_run_52 (by decide) (fun c9 => ?_) (fun c9 => ?_)
    · have h := h.1 c9
      refine z_aload_n F dX0_run_59 rfl 1 rfl ?_
      refine z_aload_n F dX0_run_60 rfl 2 rfl ?_
      refine z_bipush (v := 9) F dX0_run_61 rfl ?_
      refine z_iload F dX0_run_63 5 rfl ?_
      refine z_iadd F dX0_run_65 ?_
      refine z_callVi (fun u9 => w_Co_Gr G a ab u9.1 u9.2) F (mX0_offWalls G a ab vc vg ((9 : Int32) + x4) _ h) gX0_run_X0_offWalls rfl hdX0_offWalls ⟨rfl, rfl, Nat.le_of_ble_eq_true rfl, Nat.le_of_ble_eq_true rfl, Nat.le_of_ble_eq_true rfl, Nat.le_of_ble_eq_true rfl⟩ 0 rfl rfl [0, 1, 2, 3, 4, 5, 6, 7, 8, 9] [] [0, 1, 2, 3, 4, 5, 6, 7, 8, 9] rfl rfl (by decide) (fun _ => rfl) rfl (Nat.le_of_ble_eq_true rfl) dX0_run_66 (fun r_2 u9 h => ?_)
      obtain ⟨vc_3, vg_4⟩ := u9
      refine z_w (w' := w_Co_Gr G a ab vc_3 vg_4) rfl ?_
      exact z_lv [1, 2, 3, 4, 5] rfl (t69 K3 ih3 vc_3 vg_4 x2 x3 x4 ((9 : Int32) + x4) r_2 h)
    · have h := h.2 c9
      refine z_iconst (v := 0) F dX0_run_55 rfl ?_
      refine z_goto 69 F dX0_run_56 (by decide) ?_
      exact z_lv [1, 2, 3, 4, 5] rfl (t69 K3 ih3 vc vg x2 x3 x4 ((9 : Int32) + x4) (0 : Int32) h)
  have t38 : ∀ (K3 : Co → Gr → Int32 → Int32 → Int32 → Prop) (ih3 : ∀ (vc : Co) (vg : Gr) (x2 : Int32) (x3 : Int32) (x4 : Int32), K3 vc vg x2 x3 x4 → Z E 6 0 0 (w_Co_Gr G a ab vc vg) [(0, .ref (a 0)), (1, .ref (ab 0)), (2, .int x2), (3, .int x3), (4, .int x4)] 3 []) (vc : Co) (vg : Gr) (x2 : Int32) (x3 : Int32) (x4 : Int32), wpX0_run_B38 Q K3 vc vg x2 x3 x4 → Z E 6 0 0 (w_Co_Gr G a ab vc vg) [(0, .ref (a 0)), (1, .ref (ab 0)), (2, .int x2), (3, .int x3), (4, .int x4)] 38 [] := by
    intro K3 ih3 vc vg x2 x3 x4 h
    unfold wpX0_run_B38 at h
    refine z_iconst (v := 0) F dX0_run_38 rfl ?_
    exact z_lv [0, 1, 2, 3, 4] rfl (t39 K3 ih3 vc vg x2 x3 x4 (0 : Int32) h)
  have t3 : ∀ (n : Nat) (vc : Co) (vg : Gr) (x2 : Int32) (x3 : Int32) (x4 : Int32), wpX0_run_L3 Q n vc vg x2 x3 x4 → Z E 6 0 0 (w_Co_Gr G a ab vc vg) [(0, .ref (a 0)), (1, .ref (ab 0)), (2, .int x2), (3, .int x3), (4, .int x4)] 3 [] := by
    intro n
    induction n with
    | zero => intro vc vg x2 x3 x4 h; exact h.elim
    | succ n ihQ =>
      have ih3 : ∀ (vc : Co) (vg : Gr) (x2 : Int32) (x3 : Int32) (x4 : Int32), wpX0_run_L3 Q n vc vg x2 x3 x4 → Z E 6 0 0 (w_Co_Gr G a ab vc vg) [(0, .ref (a 0)), (1, .ref (ab 0)), (2, .int x2), (3, .int x3), (4, .int x4)] 3 [] := ihQ
      intro vc vg x2 x3 x4 h
      have h : wpX0_run_H3 Q (wpX0_run_L3 Q n) vc vg x2 x3 x4 := h
      generalize wpX0_run_L3 Q n = K3 at h ih3
      clear ihQ
      unfold wpX0_run_H3 at h
      refine z_iload F dX0_run_3 4 rfl ?_
      refine z_iload_n F dX0_run_5 rfl 2 rfl ?_
      refine z_icmp_gt 76 F dX0_run_6 (by decide) (fun c9 => ?_) (fun c9 => ?_)
      · have h := h.1 c9
        exact hret (vc, vg) _ _ h dX0_run_76
      · have h := h.2 c9
        refine z_iload F dX0_run_9 4 rfl ?_
        refine z_bipush (v := 60) F dX0_run_11 rfl ?_
        refine z_icmp_gt 76 F dX0_run_13 (by decide) (fun c9 => ?_) (fun c9 => ?_)
        · have h := h.1 c9
          exact hret (vc, vg) _ _ h dX0_run_76
        · have h := h.2 c9
          refine z_iload F dX0_run_16 4 rfl ?_
          refine z_bipush (v := 8) F dX0_run_18 rfl ?_
          refine z_icmp_gt 38 F dX0_run_20 (by decide) (fun c9 => ?_) (fun c9 => ?_)
          · have h := h.1 c9
            exact z_lv [0, 1, 2, 3, 4] rfl (t38 K3 ih3 vc vg x2 x3 x4 h)
          · have h := h.2 c9
            refine z_iload_n F dX0_run_23 rfl 3 rfl ?_
            refine z_iload F dX0_run_24 4 rfl ?_
            refine z_iconst (v := 1) F dX0_run_26 rfl ?_
            refine z_isub F dX0_run_27 ?_
            refine z_callNi (fun _ => w_Co_Gr G a ab vc vg) F (mX6_has G x3 (x4 - (1 : Int32)) _ h) gX0_run_X6_has_n32 (List.mem_of_getElem? (i := 11) rfl) f0 f1 rfl hdX6_has ⟨rfl, rfl, Nat.le_of_ble_eq_true rfl, Nat.le_of_ble_eq_true rfl, Nat.le_of_ble_eq_true rfl, Nat.le_of_ble_eq_true rfl⟩ [] [0, 1, 2, 3, 4, 5, 6, 7, 8, 9] [0, 1, 2, 3, 4, 5, 6, 7, 8, 9] rfl rfl (by decide) (fun _ => rfl) rfl (Nat.le_of_ble_eq_true rfl) dX0_run_28 (fun r_1 u9 h => ?_)
            refine z_if_eq 38 F dX0_run_31 (by decide) (fun c9 => ?_) (fun c9 => ?_)
            · have h := h.1 c9
              exact z_lv [0, 1, 2, 3, 4] rfl (t38 K3 ih3 vc vg x2 x3 x4 h)
            · have h := h.2 c9
              refine z_iconst (v := 1) F dX0_run_34 rfl ?_
              refine z_goto 39 F dX0_run_35 (by decide) ?_
              exact z_lv [0, 1, 2, 3, 4] rfl (t39 K3 ih3 vc vg x2 x3 x4 (1 : Int32) h)
  unfold wpX0_run at h
  refine z_iconst (v := 1) F dX0_run_0 rfl ?_
  refine z_istore [(4, .int (1 : Int32)), (0, .ref (a 0)), (1, .ref (ab 0)), (2, .int p2), (3, .int p3)] F dX0_run_1 (by decide) rfl ?_
  obtain ⟨n9, h⟩ := h
  exact z_lv [1, 2, 3, 4, 0] rfl (t3 n9 vc vg p2 p3 (1 : Int32) h)
abbrev rmX6_isWithin : Room := { frames := 0, cells := 0, slots := 0, locals := 0 }
set_option maxRecDepth 100000 in
set_option maxHeartbeats 4000000 in
theorem mX6_isWithin (G : ZG) (p0 : Int32) (p1 : Int32) (p2 : Int32) (Q : Int32 → Prop) (h : wpX6_isWithin p0 p1 p2 Q) : ZMi G yX6_isWithin wsX6_isWithin rmX6_isWithin [.int p0, .int p1, .int p2] ([]) (fun _ : Unit => []) (fun r _ => Q r) := by
  refine z_ofz (cc := cX6_isWithin) (N := 3) (lv := [(0, .int p0), (1, .int p1), (2, .int p2)]) (by decide) rfl (Nat.le_of_ble_eq_true rfl) rfl (fun E F hret => ?_)
  have F : ZF E 3 cX6_isWithin RX6 wsX6_isWithin rmX6_isWithin G := F
  skip
  unfold wpX6_isWithin at h
  refine z_iload_n F dX6_isWithin_0 rfl 0 rfl ?_
  refine z_iload_n F dX6_isWithin_1 rfl 1 rfl ?_
  refine z_icmp_lt 14 F dX6_isWithin_2 (by decide) (fun c9 => ?_) (fun c9 => ?_)
  · have h := h.1 c9
    refine z_iconst (v := 0) F dX6_isWithin_14 rfl ?_
    exact hret (0 : Int32) () _ _ h dX6_isWithin_15 (by decide)
  · have h := h.2 c9
    refine z_iload_n F dX6_isWithin_5 rfl 0 rfl ?_
    refine z_iload_n F dX6_isWithin_6 rfl 2 rfl ?_
    refine z_icmp_gt 14 F dX6_isWithin_7 (by decide) (fun c9 => ?_) (fun c9 => ?_)
    · have h := h.1 c9
      refine z_iconst (v := 0) F dX6_isWithin_14 rfl ?_
      exact hret (0 : Int32) () _ _ h dX6_isWithin_15 (by decide)
    · have h := h.2 c9
      refine z_iconst (v := 1) F dX6_isWithin_10 rfl ?_
      refine z_goto 15 F dX6_isWithin_11 (by decide) ?_
      exact hret (1 : Int32) () _ _ h dX6_isWithin_15 (by decide)
abbrev rmX6_isAhead : Room := { frames := 1, cells := 0, slots := 0, locals := 22 }
set_option maxRecDepth 100000 in
set_option maxHeartbeats 4000000 in
theorem mX6_isAhead (G : ZG) (p0 : Int32) (Q : Int32 → Prop) (h : wpX6_isAhead p0 Q) : ZMi G yX6_isAhead wsX6_isAhead rmX6_isAhead [.int p0] ([]) (fun _ : Unit => []) (fun r _ => Q r) := by
  refine z_ofz (cc := cX6_isAhead) (N := 1) (lv := [(0, .int p0)]) (by decide) rfl (Nat.le_of_ble_eq_true rfl) rfl (fun E F hret => ?_)
  have F : ZF E 1 cX6_isAhead RX6 wsX6_isAhead rmX6_isAhead G := F
  skip
  unfold wpX6_isAhead at h
  refine z_iload_n F dX6_isAhead_0 rfl 0 rfl ?_
  refine z_iconst (v := 0) F dX6_isAhead_1 rfl ?_
  refine z_bipush (v := 60) F dX6_isAhead_2 rfl ?_
  refine z_callSi (fun _ => []) F (mX6_isWithin G p0 (0 : Int32) (60 : Int32) _ h) gX6_isAhead_X6_isWithin rfl hdX6_isWithin ⟨rfl, rfl, Nat.le_of_ble_eq_true rfl, Nat.le_of_ble_eq_true rfl, Nat.le_of_ble_eq_true rfl, Nat.le_of_ble_eq_true rfl⟩ [] [] [] rfl rfl (by decide) (fun _ => rfl) rfl (Nat.le_of_ble_eq_true rfl) dX6_isAhead_4 (fun r_1 u9 h => ?_)
  have h9 := h.1
  have h := h.2
  exact hret r_1 () _ _ h dX6_isAhead_7 (zbz_n h9)
abbrev rmX0_at : Room := { frames := 2, cells := 0, slots := 0, locals := 42 }
set_option maxRecDepth 100000 in
set_option maxHeartbeats 4000000 in
theorem mX0_at (G : ZG) (a : Nat → Nat) (vc : Co) (p1 : Int32) (Q : Int32 → Co → Prop) (h : wpX0_at vc p1 Q) : ZMi G yX0_at wsX0_at rmX0_at [.ref (a 0), .int p1] (w_Co G a vc) (fun vc : Co => w_Co G a vc) (Q) := by
  refine z_ofi (cc := cX0_at) (N := 2) (lv := [(0, .ref (a 0)), (1, .int p1)]) (by decide) rfl (Nat.le_of_ble_eq_true rfl) rfl (fun E F hret => ?_)
  have F : ZF E 2 cX0_at RX0 wsX0_at rmX0_at G := F
  have f0 : ZW E (.initialized RX6) := F.at 3 rfl
  have f1 : ZW E (.static yX6_isAhead) := F.at 2 rfl
  have f2 : ZW E (.fieldLink RX0 11 "ColourEcho$Course" "row" "[I") := F.at 1 rfl
  have iX0 : ∀ x ∈ u_ws RX0 TX0 1, x ∈ wsX0_at := fun _ h => List.mem_cons_of_mem _ (List.mem_append_right _ h)
  unfold wpX0_at at h
  refine z_iload_n F dX0_at_0 rfl 1 rfl ?_
  refine z_callNi (fun _ => w_Co G a vc) F (mX6_isAhead G p1 _ h) gX0_at_X6_isAhead_n46 (List.mem_of_getElem? (i := 13) rfl) f0 f1 rfl hdX6_isAhead ⟨rfl, rfl, Nat.le_of_ble_eq_true rfl, Nat.le_of_ble_eq_true rfl, Nat.le_of_ble_eq_true rfl, Nat.le_of_ble_eq_true rfl⟩ [] [0, 1] [0, 1] rfl rfl (by decide) (fun _ => rfl) rfl (Nat.le_of_ble_eq_true rfl) dX0_at_1 (fun r_1 u9 h => ?_)
  refine z_if_eq 19 F dX0_at_4 (by decide) (fun c9 => ?_) (fun c9 => ?_)
  · have h := h.1 c9
    refine z_iconst (v := 0) F dX0_at_19 rfl ?_
    exact hret (0 : Int32) vc _ _ h dX0_at_20
  · have h := h.2 c9
    refine z_aload_n F dX0_at_7 rfl 0 rfl ?_
    refine z_get (ci := 0) F iX0 0 rfl rfl 0 (by decide) f2 rfl rfl dX0_at_8 ?_
    refine z_bipush (v := 9) F dX0_at_11 rfl ?_
    refine z_iload_n F dX0_at_13 rfl 1 rfl ?_
    refine z_iadd F dX0_at_14 ?_
    have h9 := h.1
    have h := h.2
    refine z_iald F 1 rfl h9 dX0_at_15 ?_
    refine z_goto 20 F dX0_at_16 (by decide) ?_
    exact hret ((Co_row vc) (((9 : Int32) + p1)).toNatClampNeg) vc _ _ h dX0_at_20
abbrev rmX0_mostFrom : Room := { frames := 3, cells := 0, slots := 0, locals := 63 }
set_option maxRecDepth 100000 in
set_option maxHeartbeats 4000000 in
theorem mX0_mostFrom (G : ZG) (a : Nat → Nat) (vc : Co) (p1 : Int32) (Q : Int32 → Co → Prop) (h : wpX0_mostFrom vc p1 Q) : ZMi G yX0_mostFrom wsX0_mostFrom rmX0_mostFrom [.ref (a 0), .int p1] (w_Co G a vc) (fun vc : Co => w_Co G a vc) (Q) := by
  refine z_ofi (cc := cX0_mostFrom) (N := 4) (lv := [(0, .ref (a 0)), (1, .int p1)]) (by decide) rfl (Nat.le_of_ble_eq_true rfl) rfl (fun E F hret => ?_)
  have F : ZF E 4 cX0_mostFrom RX0 wsX0_mostFrom rmX0_mostFrom G := F
  have f0 : ZW E (.methodLink RX0 53 Lib.Math.max.name) := F.at 1 rfl
  have f1 : ZW E (.static Lib.Math.max.name) := F.at 2 rfl
  have f2 : ZW E (.initialized "java/lang/Math") := F.at 3 rfl
  have f3 : ZW E (.code Lib.Math.max.name Lib.Math.max.code 2 (some .int)) := F.at 4 rfl
  have t4 : ∀ (n : Nat) (vc : Co) (x2 : Int32) (x3 : Int32), wpX0_mostFrom_L4 Q n vc x2 x3 → Z E 4 0 0 (w_Co G a vc) [(0, .ref (a 0)), (2, .int x2), (3, .int x3)] 4 [] := by
    intro n
    induction n with
    | zero => intro vc x2 x3 h; exact h.elim
    | succ n ihQ =>
      have ih4 : ∀ (vc : Co) (x2 : Int32) (x3 : Int32), wpX0_mostFrom_L4 Q n vc x2 x3 → Z E 4 0 0 (w_Co G a vc) [(0, .ref (a 0)), (2, .int x2), (3, .int x3)] 4 [] := ihQ
      intro vc x2 x3 h
      have h : wpX0_mostFrom_H4 Q (wpX0_mostFrom_L4 Q n) vc x2 x3 := h
      generalize wpX0_mostFrom_L4 Q n = K4 at h ih4
      clear ihQ
      unfold wpX0_mostFrom_H4 at h
      refine z_iload_n F dX0_mostFrom_4 rfl 2 rfl ?_
      refine z_bipush (v := 60) F dX0_mostFrom_5 rfl ?_
      refine z_icmp_gt 26 F dX0_mostFrom_7 (by decide) (fun c9 => ?_) (fun c9 => ?_)
      · have h := h.1 c9
        refine z_iload_n F dX0_mostFrom_26 rfl 1 rfl ?_
        exact hret x2 vc _ _ h dX0_mostFrom_27
      · have h := h.2 c9
        refine z_iload_n F dX0_mostFrom_10 rfl 1 rfl ?_
        refine z_aload_n F dX0_mostFrom_11 rfl 0 rfl ?_
        refine z_iload_n F dX0_mostFrom_12 rfl 2 rfl ?_
        refine z_callVi (fun u9 => w_Co G a u9) F (mX0_at G a vc x3 _ h) gX0_mostFrom_X0_at rfl hdX0_at ⟨rfl, rfl, Nat.le_of_ble_eq_true rfl, Nat.le_of_ble_eq_true rfl, Nat.le_of_ble_eq_true rfl, Nat.le_of_ble_eq_true rfl⟩ 0 rfl rfl [0, 1] [] [0, 1] rfl rfl (by decide) (fun _ => rfl) rfl (Nat.le_of_ble_eq_true rfl) dX0_mostFrom_13 (fun r_1 vc_2 h => ?_)
        refine z_max F f0 f1 f2 f3 ⟨Nat.le_of_ble_eq_true rfl, Nat.le_of_ble_eq_true rfl, Nat.le_of_ble_eq_true rfl, Nat.le_of_ble_eq_true rfl⟩ dX0_mostFrom_16 ?_
        refine z_topi (fun x2_3 e9 => ?_)
        have h := h x2_3 e9
        refine z_istore_n [(2, .int x2_3), (0, .ref (a 0)), (3, .int x3)] F dX0_mostFrom_19 rfl (by decide) rfl ?_
        obtain ⟨x3_4, e9⟩ : ∃ z : Int32, z = x3 + 1 := ⟨_, rfl⟩
        have h := h x3_4 e9
        refine z_iinc (v := x3_4) [(3, .int x3_4), (2, .int x2_3), (0, .ref (a 0))] F dX0_mostFrom_20 2 rfl (by rw [e9]; rfl) (by decide) rfl ?_
        refine z_goto 4 F dX0_mostFrom_23 (by decide) ?_
        exact z_lv [2, 1, 0] rfl (ih4 vc_2 x2_3 x3_4 h)
  unfold wpX0_mostFrom at h
  refine z_iconst (v := 0) F dX0_mostFrom_0 rfl ?_
  refine z_istore_n [(2, .int (0 : Int32)), (0, .ref (a 0)), (1, .int p1)] F dX0_mostFrom_1 rfl (by decide) rfl ?_
  refine z_iload_n F dX0_mostFrom_2 rfl 2 rfl ?_
  refine z_istore_n [(3, .int p1), (2, .int (0 : Int32)), (0, .ref (a 0)), (1, .int p1)] F dX0_mostFrom_3 rfl (by decide) rfl ?_
  obtain ⟨n9, h⟩ := h
  exact z_lv [2, 1, 0] rfl (t4 n9 vc (0 : Int32) p1 h)
abbrev rmX0_lastSeen : Room := { frames := 3, cells := 0, slots := 0, locals := 63 }
set_option maxRecDepth 100000 in
set_option maxHeartbeats 4000000 in
theorem mX0_lastSeen (G : ZG) (a : Nat → Nat) (vc : Co) (Q : Int32 → Co → Prop) (h : wpX0_lastSeen vc Q) : ZMi G yX0_lastSeen wsX0_lastSeen rmX0_lastSeen [.ref (a 0)] (w_Co G a vc) (fun vc : Co => w_Co G a vc) (Q) := by
  refine z_ofi (cc := cX0_lastSeen) (N := 2) (lv := [(0, .ref (a 0))]) (by decide) rfl (Nat.le_of_ble_eq_true rfl) rfl (fun E F hret => ?_)
  have F : ZF E 2 cX0_lastSeen RX0 wsX0_lastSeen rmX0_lastSeen G := F
  have t3 : ∀ (n : Nat) (vc : Co) (x1 : Int32), wpX0_lastSeen_L3 Q n vc x1 → Z E 2 0 0 (w_Co G a vc) [(0, .ref (a 0)), (1, .int x1)] 3 [] := by
    intro n
    induction n with
    | zero => intro vc x1 h; exact h.elim
    | succ n ihQ =>
      have ih3 : ∀ (vc : Co) (x1 : Int32), wpX0_lastSeen_L3 Q n vc x1 → Z E 2 0 0 (w_Co G a vc) [(0, .ref (a 0)), (1, .int x1)] 3 [] := ihQ
      intro vc x1 h
      have h : wpX0_lastSeen_H3 Q (wpX0_lastSeen_L3 Q n) vc x1 := h
      generalize wpX0_lastSeen_L3 Q n = K3 at h ih3
      clear ihQ
      unfold wpX0_lastSeen_H3 at h
      refine z_iload_n F dX0_lastSeen_3 rfl 1 rfl ?_
      refine z_if_lt 23 F dX0_lastSeen_4 (by decide) (fun c9 => ?_) (fun c9 => ?_)
      · have h := h.1 c9
        refine z_iconst (v := -1) F dX0_lastSeen_23 rfl ?_
        exact hret (-1 : Int32) vc _ _ h dX0_lastSeen_24
      · have h := h.2 c9
        refine z_aload_n F dX0_lastSeen_7 rfl 0 rfl ?_
        refine z_iload_n F dX0_lastSeen_8 rfl 1 rfl ?_
        refine z_callVi (fun u9 => w_Co G a u9) F (mX0_at G a vc x1 _ h) gX0_lastSeen_X0_at rfl hdX0_at ⟨rfl, rfl, Nat.le_of_ble_eq_true rfl, Nat.le_of_ble_eq_true rfl, Nat.le_of_ble_eq_true rfl, Nat.le_of_ble_eq_true rfl⟩ 0 rfl rfl [0, 1] [] [0, 1] rfl rfl (by decide) (fun _ => rfl) rfl (Nat.le_of_ble_eq_true rfl) dX0_lastSeen_9 (fun r_1 vc_2 h => ?_)
        refine z_if_le 17 F dX0_lastSeen_12 (by decide) (fun c9 => ?_) (fun c9 => ?_)
        · have h := h.1 c9
          obtain ⟨x1_3, e9⟩ : ∃ z : Int32, z = x1 + (-1) := ⟨_, rfl⟩
          have h := h x1_3 e9
          refine z_iinc (v := x1_3) [(1, .int x1_3), (0, .ref (a 0))] F dX0_lastSeen_17 1 rfl (by rw [e9]; rfl) (by decide) rfl ?_
          refine z_goto 3 F dX0_lastSeen_20 (by decide) ?_
          exact z_lv [1, 0] rfl (ih3 vc_2 x1_3 h)
        · have h := h.2 c9
          refine z_iload_n F dX0_lastSeen_15 rfl 1 rfl ?_
          exact hret x1 vc_2 _ _ h dX0_lastSeen_16
  unfold wpX0_lastSeen at h
  refine z_bipush (v := 60) F dX0_lastSeen_0 rfl ?_
  refine z_istore_n [(1, .int (60 : Int32)), (0, .ref (a 0))] F dX0_lastSeen_2 rfl (by decide) rfl ?_
  obtain ⟨n9, h⟩ := h
  exact z_lv [1, 0] rfl (t3 n9 vc (60 : Int32) h)
abbrev rmX3_become : Room := { frames := 1, cells := 0, slots := 0, locals := 60 }
set_option maxRecDepth 100000 in
set_option maxHeartbeats 4000000 in
theorem mX3_become (G : ZG) (a : Nat → Nat) (ab : Nat → Nat) (vg : Gr) (vf : Gr) (Q : Gr → Gr → Prop) (h : wpX3_become vg vf Q) : ZMv G yX3_become wsX3_become rmX3_become [.ref (a 0), .ref (ab 0)] (w_Gr_Gr G a ab vg vf) (fun u9 : Gr × Gr => w_Gr_Gr G a ab u9.1 u9.2) (fun u9 => Q u9.1 u9.2) := by
  refine z_ofv (cc := cX3_become) (N := 2) (lv := [(0, .ref (a 0)), (1, .ref (ab 0))]) (by decide) rfl (Nat.le_of_ble_eq_true rfl) rfl (fun E F hret => ?_)
  have F : ZF E 2 cX3_become RX3 wsX3_become rmX3_become G := F
  have f0 : ZW E (.fieldLink RX3 9 "ColourEcho$Gorge" "off" "[I") := F.at 1 rfl
  have f1 : ZW E (.methodLink RX3 53 arraycopyName) := F.at 2 rfl
  have f2 : ZW E (.native arraycopyName) := F.at 3 rfl
  have f3 : ZW E (.static arraycopyName) := F.at 4 rfl
  have f4 : ZW E (.initialized "java/lang/System") := F.at 5 rfl
  have f5 : ZW E (.fieldLink RX3 15 "ColourEcho$Gorge" "keeps" "[I") := F.at 6 rfl
  have f6 : ZW E (.fieldLink RX3 18 "ColourEcho$Gorge" "dresses" "[I") := F.at 7 rfl
  have f7 : ZW E (.fieldLink RX3 21 "ColourEcho$Gorge" "past" "[I") := F.at 8 rfl
  have f8 : ZW E (.fieldLink RX3 24 "ColourEcho$Gorge" "today" "[I") := F.at 9 rfl
  have f9 : ZW E (.fieldLink RX3 27 "ColourEcho$Gorge" "sightDays" "[I") := F.at 10 rfl
  have f10 : ZW E (.fieldLink RX3 30 "ColourEcho$Gorge" "sightAmounts" "[I") := F.at 11 rfl
  have f11 : ZW E (.fieldLink RX3 33 "ColourEcho$Gorge" "sights" "I") := F.at 12 rfl
  have f12 : ZW E (.fieldLink RX3 37 "ColourEcho$Gorge" "most" "I") := F.at 13 rfl
  have f13 : ZW E (.fieldLink RX3 40 "ColourEcho$Gorge" "day" "I") := F.at 14 rfl
  have f14 : ZW E (.fieldLink RX3 43 "ColourEcho$Gorge" "worn" "I") := F.at 15 rfl
  have f15 : ZW E (.fieldLink RX3 46 "ColourEcho$Gorge" "fog" "Z") := F.at 16 rfl
  have f16 : ZW E (.fieldLink RX3 50 "ColourEcho$Gorge" "snow" "Z") := F.at 17 rfl
  have iX3 : ∀ x ∈ u_ws RX3 TX3 13, x ∈ wsX3_become := fun _ h => List.mem_cons_of_mem _ (List.mem_append_right _ h)
  unfold wpX3_become at h
  refine z_aload_n F dX3_become_0 rfl 1 rfl ?_
  refine z_get (ci := 3) F iX3 8 rfl rfl 0 (by decide) f0 rfl rfl dX3_become_1 ?_
  refine z_iconst (v := 0) F dX3_become_4 rfl ?_
  refine z_aload_n F dX3_become_5 rfl 0 rfl ?_
  refine z_get (ci := 3) F iX3 0 rfl rfl 0 (by decide) f0 rfl rfl dX3_become_6 ?_
  refine z_iconst (v := 0) F dX3_become_9 rfl ?_
  refine z_iconst (v := 4) F dX3_become_10 rfl ?_
  refine z_copy 4 (w_Gr_Gr G a ab (Gr_s_off vg (va_cpy (Gr_off vf) (Gr_off vg) 0 0 4)) vf) F f1 f2 f3 f4 9 1 rfl rfl rfl (by decide) (by decide) (by decide) ⟨Nat.le_of_ble_eq_true rfl, Nat.le_of_ble_eq_true rfl⟩ rfl dX3_become_11 ?_
  refine z_aload_n F dX3_become_14 rfl 1 rfl ?_
  refine z_get (ci := 3) F iX3 8 rfl rfl 1 (by decide) f5 rfl rfl dX3_become_15 ?_
  refine z_iconst (v := 0) F dX3_become_18 rfl ?_
  refine z_aload_n F dX3_become_19 rfl 0 rfl ?_
  refine z_get (ci := 3) F iX3 0 rfl rfl 1 (by decide) f5 rfl rfl dX3_become_20 ?_
  refine z_iconst (v := 0) F dX3_become_23 rfl ?_
  refine z_iconst (v := 4) F dX3_become_24 rfl ?_
  refine z_copy 4 (w_Gr_Gr G a ab (Gr_s_keeps (Gr_s_off vg (va_cpy (Gr_off vf) (Gr_off vg) 0 0 4)) (va_cpy (Gr_keeps vf) (Gr_keeps vg) 0 0 4)) vf) F f1 f2 f3 f4 10 2 rfl rfl rfl (by decide) (by decide) (by decide) ⟨Nat.le_of_ble_eq_true rfl, Nat.le_of_ble_eq_true rfl⟩ rfl dX3_become_25 ?_
  refine z_aload_n F dX3_become_28 rfl 1 rfl ?_
  refine z_get (ci := 3) F iX3 8 rfl rfl 2 (by decide) f6 rfl rfl dX3_become_29 ?_
  refine z_iconst (v := 0) F dX3_become_32 rfl ?_
  refine z_aload_n F dX3_become_33 rfl 0 rfl ?_
  refine z_get (ci := 3) F iX3 0 rfl rfl 2 (by decide) f6 rfl rfl dX3_become_34 ?_
  refine z_iconst (v := 0) F dX3_become_37 rfl ?_
  refine z_bipush (v := 18) F dX3_become_38 rfl ?_
  refine z_copy 18 (w_Gr_Gr G a ab (Gr_s_dresses (Gr_s_keeps (Gr_s_off vg (va_cpy (Gr_off vf) (Gr_off vg) 0 0 4)) (va_cpy (Gr_keeps vf) (Gr_keeps vg) 0 0 4)) (va_cpy (Gr_dresses vf) (Gr_dresses vg) 0 0 18)) vf) F f1 f2 f3 f4 11 3 rfl rfl rfl (by decide) (by decide) (by decide) ⟨Nat.le_of_ble_eq_true rfl, Nat.le_of_ble_eq_true rfl⟩ rfl dX3_become_40 ?_
  refine z_aload_n F dX3_become_43 rfl 1 rfl ?_
  refine z_get (ci := 3) F iX3 8 rfl rfl 3 (by decide) f7 rfl rfl dX3_become_44 ?_
  refine z_iconst (v := 0) F dX3_become_47 rfl ?_
  refine z_aload_n F dX3_become_48 rfl 0 rfl ?_
  refine z_get (ci := 3) F iX3 0 rfl rfl 3 (by decide) f7 rfl rfl dX3_become_49 ?_
  refine z_iconst (v := 0) F dX3_become_52 rfl ?_
  refine z_bipush (v := 27) F dX3_become_53 rfl ?_
  refine z_copy 27 (w_Gr_Gr G a ab (Gr_s_past (Gr_s_dresses (Gr_s_keeps (Gr_s_off vg (va_cpy (Gr_off vf) (Gr_off vg) 0 0 4)) (va_cpy (Gr_keeps vf) (Gr_keeps vg) 0 0 4)) (va_cpy (Gr_dresses vf) (Gr_dresses vg) 0 0 18)) (va_cpy (Gr_past vf) (Gr_past vg) 0 0 27)) vf) F f1 f2 f3 f4 12 4 rfl rfl rfl (by decide) (by decide) (by decide) ⟨Nat.le_of_ble_eq_true rfl, Nat.le_of_ble_eq_true rfl⟩ rfl dX3_become_55 ?_
  refine z_aload_n F dX3_become_58 rfl 1 rfl ?_
  refine z_get (ci := 3) F iX3 8 rfl rfl 4 (by decide) f8 rfl rfl dX3_become_59 ?_
  refine z_iconst (v := 0) F dX3_become_62 rfl ?_
  refine z_aload_n F dX3_become_63 rfl 0 rfl ?_
  refine z_get (ci := 3) F iX3 0 rfl rfl 4 (by decide) f8 rfl rfl dX3_become_64 ?_
  refine z_iconst (v := 0) F dX3_become_67 rfl ?_
  refine z_iconst (v := 3) F dX3_become_68 rfl ?_
  refine z_copy 3 (w_Gr_Gr G a ab (Gr_s_today (Gr_s_past (Gr_s_dresses (Gr_s_keeps (Gr_s_off vg (va_cpy (Gr_off vf) (Gr_off vg) 0 0 4)) (va_cpy (Gr_keeps vf) (Gr_keeps vg) 0 0 4)) (va_cpy (Gr_dresses vf) (Gr_dresses vg) 0 0 18)) (va_cpy (Gr_past vf) (Gr_past vg) 0 0 27)) (va_cpy (Gr_today vf) (Gr_today vg) 0 0 3)) vf) F f1 f2 f3 f4 13 5 rfl rfl rfl (by decide) (by decide) (by decide) ⟨Nat.le_of_ble_eq_true rfl, Nat.le_of_ble_eq_true rfl⟩ rfl dX3_become_69 ?_
  refine z_aload_n F dX3_become_72 rfl 1 rfl ?_
  refine z_get (ci := 3) F iX3 8 rfl rfl 5 (by decide) f9 rfl rfl dX3_become_73 ?_
  refine z_iconst (v := 0) F dX3_become_76 rfl ?_
  refine z_aload_n F dX3_become_77 rfl 0 rfl ?_
  refine z_get (ci := 3) F iX3 0 rfl rfl 5 (by decide) f9 rfl rfl dX3_become_78 ?_
  refine z_iconst (v := 0) F dX3_become_81 rfl ?_
  refine z_bipush (v := 8) F dX3_become_82 rfl ?_
  refine z_copy 8 (w_Gr_Gr G a ab (Gr_s_sightDays (Gr_s_today (Gr_s_past (Gr_s_dresses (Gr_s_keeps (Gr_s_off vg (va_cpy (Gr_off vf) (Gr_off vg) 0 0 4)) (va_cpy (Gr_keeps vf) (Gr_keeps vg) 0 0 4)) (va_cpy (Gr_dresses vf) (Gr_dresses vg) 0 0 18)) (va_cpy (Gr_past vf) (Gr_past vg) 0 0 27)) (va_cpy (Gr_today vf) (Gr_today vg) 0 0 3)) (va_cpy (Gr_sightDays vf) (Gr_sightDays vg) 0 0 8)) vf) F f1 f2 f3 f4 14 6 rfl rfl rfl (by decide) (by decide) (by decide) ⟨Nat.le_of_ble_eq_true rfl, Nat.le_of_ble_eq_true rfl⟩ rfl dX3_become_84 ?_
  refine z_aload_n F dX3_become_87 rfl 1 rfl ?_
  refine z_get (ci := 3) F iX3 8 rfl rfl 6 (by decide) f10 rfl rfl dX3_become_88 ?_
  refine z_iconst (v := 0) F dX3_become_91 rfl ?_
  refine z_aload_n F dX3_become_92 rfl 0 rfl ?_
  refine z_get (ci := 3) F iX3 0 rfl rfl 6 (by decide) f10 rfl rfl dX3_become_93 ?_
  refine z_iconst (v := 0) F dX3_become_96 rfl ?_
  refine z_bipush (v := 8) F dX3_become_97 rfl ?_
  refine z_copy 8 (w_Gr_Gr G a ab (Gr_s_sightAmounts (Gr_s_sightDays (Gr_s_today (Gr_s_past (Gr_s_dresses (Gr_s_keeps (Gr_s_off vg (va_cpy (Gr_off vf) (Gr_off vg) 0 0 4)) (va_cpy (Gr_keeps vf) (Gr_keeps vg) 0 0 4)) (va_cpy (Gr_dresses vf) (Gr_dresses vg) 0 0 18)) (va_cpy (Gr_past vf) (Gr_past vg) 0 0 27)) (va_cpy (Gr_today vf) (Gr_today vg) 0 0 3)) (va_cpy (Gr_sightDays vf) (Gr_sightDays vg) 0 0 8)) (va_cpy (Gr_sightAmounts vf) (Gr_sightAmounts vg) 0 0 8)) vf) F f1 f2 f3 f4 15 7 rfl rfl rfl (by decide) (by decide) (by decide) ⟨Nat.le_of_ble_eq_true rfl, Nat.le_of_ble_eq_true rfl⟩ rfl dX3_become_99 ?_
  refine z_aload_n F dX3_become_102 rfl 0 rfl ?_
  refine z_aload_n F dX3_become_103 rfl 1 rfl ?_
  refine z_get (ci := 3) F iX3 8 rfl rfl 7 (by decide) f11 rfl rfl dX3_become_104 ?_
  refine z_put (ci := 3) (ty := .int) (w_Gr_Gr G a ab (Gr_s_sights (Gr_s_sightAmounts (Gr_s_sightDays (Gr_s_today (Gr_s_past (Gr_s_dresses (Gr_s_keeps (Gr_s_off vg (va_cpy (Gr_off vf) (Gr_off vg) 0 0 4)) (va_cpy (Gr_keeps vf) (Gr_keeps vg) 0 0 4)) (va_cpy (Gr_dresses vf) (Gr_dresses vg) 0 0 18)) (va_cpy (Gr_past vf) (Gr_past vg) 0 0 27)) (va_cpy (Gr_today vf) (Gr_today vg) 0 0 3)) (va_cpy (Gr_sightDays vf) (Gr_sightDays vg) 0 0 8)) (va_cpy (Gr_sightAmounts vf) (Gr_sightAmounts vg) 0 0 8)) (Gr_sights vf)) vf) F iX3 tyX3 tyX3_ok nmX3 0 rfl rfl 7 (by decide) f11 rfl rfl rfl rfl rfl (Nat.le_of_ble_eq_true rfl) rfl dX3_become_107 ?_
  refine z_aload_n F dX3_become_110 rfl 0 rfl ?_
  refine z_aload_n F dX3_become_111 rfl 1 rfl ?_
  refine z_get (ci := 3) F iX3 8 rfl rfl 8 (by decide) f12 rfl rfl dX3_become_112 ?_
  refine z_put (ci := 3) (ty := .int) (w_Gr_Gr G a ab (Gr_s_most (Gr_s_sights (Gr_s_sightAmounts (Gr_s_sightDays (Gr_s_today (Gr_s_past (Gr_s_dresses (Gr_s_keeps (Gr_s_off vg (va_cpy (Gr_off vf) (Gr_off vg) 0 0 4)) (va_cpy (Gr_keeps vf) (Gr_keeps vg) 0 0 4)) (va_cpy (Gr_dresses vf) (Gr_dresses vg) 0 0 18)) (va_cpy (Gr_past vf) (Gr_past vg) 0 0 27)) (va_cpy (Gr_today vf) (Gr_today vg) 0 0 3)) (va_cpy (Gr_sightDays vf) (Gr_sightDays vg) 0 0 8)) (va_cpy (Gr_sightAmounts vf) (Gr_sightAmounts vg) 0 0 8)) (Gr_sights vf)) (Gr_most vf)) vf) F iX3 tyX3 tyX3_ok nmX3 0 rfl rfl 8 (by decide) f12 rfl rfl rfl rfl rfl (Nat.le_of_ble_eq_true rfl) rfl dX3_become_115 ?_
  refine z_aload_n F dX3_become_118 rfl 0 rfl ?_
  refine z_aload_n F dX3_become_119 rfl 1 rfl ?_
  refine z_get (ci := 3) F iX3 8 rfl rfl 9 (by decide) f13 rfl rfl dX3_become_120 ?_
  refine z_put (ci := 3) (ty := .int) (w_Gr_Gr G a ab (Gr_s_day (Gr_s_most (Gr_s_sights (Gr_s_sightAmounts (Gr_s_sightDays (Gr_s_today (Gr_s_past (Gr_s_dresses (Gr_s_keeps (Gr_s_off vg (va_cpy (Gr_off vf) (Gr_off vg) 0 0 4)) (va_cpy (Gr_keeps vf) (Gr_keeps vg) 0 0 4)) (va_cpy (Gr_dresses vf) (Gr_dresses vg) 0 0 18)) (va_cpy (Gr_past vf) (Gr_past vg) 0 0 27)) (va_cpy (Gr_today vf) (Gr_today vg) 0 0 3)) (va_cpy (Gr_sightDays vf) (Gr_sightDays vg) 0 0 8)) (va_cpy (Gr_sightAmounts vf) (Gr_sightAmounts vg) 0 0 8)) (Gr_sights vf)) (Gr_most vf)) (Gr_day vf)) vf) F iX3 tyX3 tyX3_ok nmX3 0 rfl rfl 9 (by decide) f13 rfl rfl rfl rfl rfl (Nat.le_of_ble_eq_true rfl) rfl dX3_become_123 ?_
  refine z_aload_n F dX3_become_126 rfl 0 rfl ?_
  refine z_aload_n F dX3_become_127 rfl 1 rfl ?_
  refine z_get (ci := 3) F iX3 8 rfl rfl 10 (by decide) f14 rfl rfl dX3_become_128 ?_
  refine z_put (ci := 3) (ty := .int) (w_Gr_Gr G a ab (Gr_s_worn (Gr_s_day (Gr_s_most (Gr_s_sights (Gr_s_sightAmounts (Gr_s_sightDays (Gr_s_today (Gr_s_past (Gr_s_dresses (Gr_s_keeps (Gr_s_off vg (va_cpy (Gr_off vf) (Gr_off vg) 0 0 4)) (va_cpy (Gr_keeps vf) (Gr_keeps vg) 0 0 4)) (va_cpy (Gr_dresses vf) (Gr_dresses vg) 0 0 18)) (va_cpy (Gr_past vf) (Gr_past vg) 0 0 27)) (va_cpy (Gr_today vf) (Gr_today vg) 0 0 3)) (va_cpy (Gr_sightDays vf) (Gr_sightDays vg) 0 0 8)) (va_cpy (Gr_sightAmounts vf) (Gr_sightAmounts vg) 0 0 8)) (Gr_sights vf)) (Gr_most vf)) (Gr_day vf)) (Gr_worn vf)) vf) F iX3 tyX3 tyX3_ok nmX3 0 rfl rfl 10 (by decide) f14 rfl rfl rfl rfl rfl (Nat.le_of_ble_eq_true rfl) rfl dX3_become_131 ?_
  refine z_aload_n F dX3_become_134 rfl 0 rfl ?_
  refine z_aload_n F dX3_become_135 rfl 1 rfl ?_
  refine z_get (ci := 3) F iX3 8 rfl rfl 11 (by decide) f15 rfl rfl dX3_become_136 ?_
  have h9 := h.1
  have h := h.2
  refine z_put (ci := 3) (ty := .boolean) (w_Gr_Gr G a ab (Gr_s_fog (Gr_s_worn (Gr_s_day (Gr_s_most (Gr_s_sights (Gr_s_sightAmounts (Gr_s_sightDays (Gr_s_today (Gr_s_past (Gr_s_dresses (Gr_s_keeps (Gr_s_off vg (va_cpy (Gr_off vf) (Gr_off vg) 0 0 4)) (va_cpy (Gr_keeps vf) (Gr_keeps vg) 0 0 4)) (va_cpy (Gr_dresses vf) (Gr_dresses vg) 0 0 18)) (va_cpy (Gr_past vf) (Gr_past vg) 0 0 27)) (va_cpy (Gr_today vf) (Gr_today vg) 0 0 3)) (va_cpy (Gr_sightDays vf) (Gr_sightDays vg) 0 0 8)) (va_cpy (Gr_sightAmounts vf) (Gr_sightAmounts vg) 0 0 8)) (Gr_sights vf)) (Gr_most vf)) (Gr_day vf)) (Gr_worn vf)) (Gr_fog vf)) vf) F iX3 tyX3 tyX3_ok nmX3 0 rfl rfl 11 (by decide) f15 rfl rfl rfl (zbz_n h9) (zbz_f h9) (Nat.le_of_ble_eq_true rfl) rfl dX3_become_139 ?_
  refine z_aload_n F dX3_become_142 rfl 0 rfl ?_
  refine z_aload_n F dX3_become_143 rfl 1 rfl ?_
  refine z_get (ci := 3) F iX3 8 rfl rfl 12 (by decide) f16 rfl rfl dX3_become_144 ?_
  have h9 := h.1
  have h := h.2
  refine z_put (ci := 3) (ty := .boolean) (w_Gr_Gr G a ab (Gr_s_snow (Gr_s_fog (Gr_s_worn (Gr_s_day (Gr_s_most (Gr_s_sights (Gr_s_sightAmounts (Gr_s_sightDays (Gr_s_today (Gr_s_past (Gr_s_dresses (Gr_s_keeps (Gr_s_off vg (va_cpy (Gr_off vf) (Gr_off vg) 0 0 4)) (va_cpy (Gr_keeps vf) (Gr_keeps vg) 0 0 4)) (va_cpy (Gr_dresses vf) (Gr_dresses vg) 0 0 18)) (va_cpy (Gr_past vf) (Gr_past vg) 0 0 27)) (va_cpy (Gr_today vf) (Gr_today vg) 0 0 3)) (va_cpy (Gr_sightDays vf) (Gr_sightDays vg) 0 0 8)) (va_cpy (Gr_sightAmounts vf) (Gr_sightAmounts vg) 0 0 8)) (Gr_sights vf)) (Gr_most vf)) (Gr_day vf)) (Gr_worn vf)) (Gr_fog vf)) (Gr_snow vf)) vf) F iX3 tyX3 tyX3_ok nmX3 0 rfl rfl 12 (by decide) f16 rfl rfl rfl (zbz_n h9) (zbz_f h9) (Nat.le_of_ble_eq_true rfl) rfl dX3_become_147 ?_
  exact hret ((Gr_s_snow (Gr_s_fog (Gr_s_worn (Gr_s_day (Gr_s_most (Gr_s_sights (Gr_s_sightAmounts (Gr_s_sightDays (Gr_s_today (Gr_s_past (Gr_s_dresses (Gr_s_keeps (Gr_s_off vg (va_cpy (Gr_off vf) (Gr_off vg) 0 0 4)) (va_cpy (Gr_keeps vf) (Gr_keeps vg) 0 0 4)) (va_cpy (Gr_dresses vf) (Gr_dresses vg) 0 0 18)) (va_cpy (Gr_past vf) (Gr_past vg) 0 0 27)) (va_cpy (Gr_today vf) (Gr_today vg) 0 0 3)) (va_cpy (Gr_sightDays vf) (Gr_sightDays vg) 0 0 8)) (va_cpy (Gr_sightAmounts vf) (Gr_sightAmounts vg) 0 0 8)) (Gr_sights vf)) (Gr_most vf)) (Gr_day vf)) (Gr_worn vf)) (Gr_fog vf)) (Gr_snow vf)), vf) _ _ h dX3_become_150
abbrev rmX5_colourOf : Room := { frames := 0, cells := 0, slots := 0, locals := 0 }
set_option maxRecDepth 100000 in
set_option maxHeartbeats 4000000 in
theorem mX5_colourOf (G : ZG) (p0 : Int32) (Q : Int32 → Prop) (h : wpX5_colourOf p0 Q) : ZMi G yX5_colourOf wsX5_colourOf rmX5_colourOf [.int p0] ([]) (fun _ : Unit => []) (fun r _ => Q r) := by
  refine z_ofi (cc := cX5_colourOf) (N := 1) (lv := [(0, .int p0)]) (by decide) rfl (Nat.le_of_ble_eq_true rfl) rfl (fun E F hret => ?_)
  have F : ZF E 1 cX5_colourOf RX5 wsX5_colourOf rmX5_colourOf G := F
  skip
  unfold wpX5_colourOf at h
  refine z_iload_n F dX5_colourOf_0 rfl 0 rfl ?_
  by_cases c98 : p0 = 98
  · have h := h.1 c98
    refine z_lookup 40 F dX5_colourOf_1 (by decide) (by rw [c98] <;> decide) (by decide) ?_
    refine z_iconst (v := 2) F dX5_colourOf_40 rfl ?_
    exact hret (2 : Int32) () _ _ h dX5_colourOf_41
  have h := h.2 c98
  by_cases c114 : p0 = 114
  · have h := h.1 c114
    refine z_lookup 36 F dX5_colourOf_1 (by decide) (by rw [c114] <;> decide) (by decide) ?_
    refine z_iconst (v := 0) F dX5_colourOf_36 rfl ?_
    exact hret (0 : Int32) () _ _ h dX5_colourOf_37
  have h := h.2 c114
  by_cases c121 : p0 = 121
  · have h := h.1 c121
    refine z_lookup 38 F dX5_colourOf_1 (by decide) (by rw [c121] <;> decide) (by decide) ?_
    refine z_iconst (v := 1) F dX5_colourOf_38 rfl ?_
    exact hret (1 : Int32) () _ _ h dX5_colourOf_39
  have h := h.2 c121
  refine z_lookup (off := 41) 42 F dX5_colourOf_1 (by decide) (by show Op.lookupswitch.offset [(98, 39), (114, 35), (121, 37)] 41 _ = _; rw [lv_osw (k := 98) (a := 98) c98 (by decide)]; rw [lv_osw (k := 114) (a := 114) c114 (by decide)]; rw [lv_osw (k := 121) (a := 121) c121 (by decide)]; rfl) (by decide) ?_
  refine z_bipush (v := -6) F dX5_colourOf_42 rfl ?_
  exact hret (-6 : Int32) () _ _ h dX5_colourOf_44
abbrev rmX5_takesDigit : Room := { frames := 1, cells := 0, slots := 0, locals := 20 }
set_option maxRecDepth 100000 in
set_option maxHeartbeats 4000000 in
theorem mX5_takesDigit (G : ZG) (p0 : Int32) (Q : Int32 → Prop) (h : wpX5_takesDigit p0 Q) : ZMi G yX5_takesDigit wsX5_takesDigit rmX5_takesDigit [.int p0] ([]) (fun _ : Unit => []) (fun r _ => Q r) := by
  refine z_ofz (cc := cX5_takesDigit) (N := 1) (lv := [(0, .int p0)]) (by decide) rfl (Nat.le_of_ble_eq_true rfl) rfl (fun E F hret => ?_)
  have F : ZF E 1 cX5_takesDigit RX5 wsX5_takesDigit rmX5_takesDigit G := F
  skip
  unfold wpX5_takesDigit at h
  refine z_iload_n F dX5_takesDigit_0 rfl 0 rfl ?_
  refine z_callSi (fun _ => []) F (mX5_colourOf G p0 _ h) gX5_takesDigit_X5_colourOf rfl hdX5_colourOf ⟨rfl, rfl, Nat.le_of_ble_eq_true rfl, Nat.le_of_ble_eq_true rfl, Nat.le_of_ble_eq_true rfl, Nat.le_of_ble_eq_true rfl⟩ [] [] [] rfl rfl (by decide) (fun _ => rfl) rfl (Nat.le_of_ble_eq_true rfl) dX5_takesDigit_1 (fun r_1 u9 h => ?_)
  refine z_bipush (v := -6) F dX5_takesDigit_4 rfl ?_
  refine z_icmp_ne 15 F dX5_takesDigit_6 (by decide) (fun c9 => ?_) (fun c9 => ?_)
  · have h := h.1 c9
    refine z_iconst (v := 1) F dX5_takesDigit_15 rfl ?_
    refine z_goto 20 F dX5_takesDigit_16 (by decide) ?_
    exact hret (1 : Int32) () _ _ h dX5_takesDigit_20 (by decide)
  · have h := h.2 c9
    refine z_iload_n F dX5_takesDigit_9 rfl 0 rfl ?_
    refine z_bipush (v := 119) F dX5_takesDigit_10 rfl ?_
    refine z_icmp_ne 19 F dX5_takesDigit_12 (by decide) (fun c9 => ?_) (fun c9 => ?_)
    · have h := h.1 c9
      refine z_iconst (v := 0) F dX5_takesDigit_19 rfl ?_
      exact hret (0 : Int32) () _ _ h dX5_takesDigit_20 (by decide)
    · have h := h.2 c9
      refine z_iconst (v := 1) F dX5_takesDigit_15 rfl ?_
      refine z_goto 20 F dX5_takesDigit_16 (by decide) ?_
      exact hret (1 : Int32) () _ _ h dX5_takesDigit_20 (by decide)
abbrev rmX5_digitAt : Room := { frames := 2, cells := 0, slots := 0, locals := 40 }
set_option maxRecDepth 100000 in
set_option maxHeartbeats 4000000 in
theorem mX5_digitAt (G : ZG) (a : Nat → Nat) (vp : Pd) (p1 : Int32) (Q : Int32 → Pd → Prop) (h : wpX5_digitAt vp p1 Q) : ZMi G yX5_digitAt wsX5_digitAt rmX5_digitAt [.ref (a 0), .int p1] (w_Pd G a vp) (fun vp : Pd => w_Pd G a vp) (Q) := by
  refine z_ofi (cc := cX5_digitAt) (N := 2) (lv := [(0, .ref (a 0)), (1, .int p1)]) (by decide) rfl (Nat.le_of_ble_eq_true rfl) rfl (fun E F hret => ?_)
  have F : ZF E 2 cX5_digitAt RX5 wsX5_digitAt rmX5_digitAt G := F
  have f0 : ZW E (.fieldLink RX5 9 "ColourEcho$Pad" "signs" "[I") := F.at 1 rfl
  have f1 : ZW E (.fieldLink RX5 15 "ColourEcho$Pad" "count" "I") := F.at 2 rfl
  have iX5 : ∀ x ∈ u_ws RX5 TX5 2, x ∈ wsX5_digitAt := fun _ h => List.mem_cons_of_mem _ (List.mem_append_right _ h)
  unfold wpX5_digitAt at h
  refine z_aload_n F dX5_digitAt_0 rfl 0 rfl ?_
  refine z_get (ci := 5) F iX5 0 rfl rfl 0 (by decide) f0 rfl rfl dX5_digitAt_1 ?_
  refine z_iload_n F dX5_digitAt_4 rfl 1 rfl ?_
  have h9 := h.1
  have h := h.2
  refine z_iald F 1 rfl h9 dX5_digitAt_5 ?_
  refine z_callSi (fun _ => w_Pd G a vp) F (mX5_takesDigit G ((Pd_signs vp) (p1).toNatClampNeg) _ h) gX5_digitAt_X5_takesDigit rfl hdX5_takesDigit ⟨rfl, rfl, Nat.le_of_ble_eq_true rfl, Nat.le_of_ble_eq_true rfl, Nat.le_of_ble_eq_true rfl, Nat.le_of_ble_eq_true rfl⟩ [] [0, 1] [0, 1] rfl rfl (by decide) (fun _ => rfl) rfl (Nat.le_of_ble_eq_true rfl) dX5_digitAt_6 (fun r_1 u9 h => ?_)
  refine z_if_eq 36 F dX5_digitAt_9 (by decide) (fun c9 => ?_) (fun c9 => ?_)
  · have h := h.1 c9
    refine z_iconst (v := 0) F dX5_digitAt_36 rfl ?_
    exact hret (0 : Int32) vp _ _ h dX5_digitAt_37
  · have h := h.2 c9
    refine z_iload_n F dX5_digitAt_12 rfl 1 rfl ?_
    refine z_iconst (v := 1) F dX5_digitAt_13 rfl ?_
    refine z_iadd F dX5_digitAt_14 ?_
    refine z_aload_n F dX5_digitAt_15 rfl 0 rfl ?_
    refine z_get (ci := 5) F iX5 0 rfl rfl 1 (by decide) f1 rfl rfl dX5_digitAt_16 ?_
    refine z_icmp_ge 36 F dX5_digitAt_19 (by decide) (fun c9 => ?_) (fun c9 => ?_)
    · have h := h.1 c9
      refine z_iconst (v := 0) F dX5_digitAt_36 rfl ?_
      exact hret (0 : Int32) vp _ _ h dX5_digitAt_37
    · have h := h.2 c9
      refine z_aload_n F dX5_digitAt_22 rfl 0 rfl ?_
      refine z_get (ci := 5) F iX5 0 rfl rfl 0 (by decide) f0 rfl rfl dX5_digitAt_23 ?_
      refine z_iload_n F dX5_digitAt_26 rfl 1 rfl ?_
      refine z_iconst (v := 1) F dX5_digitAt_27 rfl ?_
      refine z_iadd F dX5_digitAt_28 ?_
      have h9 := h.1
      have h := h.2
      refine z_iald F 1 rfl h9 dX5_digitAt_29 ?_
      refine z_bipush (v := 48) F dX5_digitAt_30 rfl ?_
      refine z_isub F dX5_digitAt_32 ?_
      refine z_goto 37 F dX5_digitAt_33 (by decide) ?_
      exact hret (((Pd_signs vp) ((p1 + (1 : Int32))).toNatClampNeg) - (48 : Int32)) vp _ _ h dX5_digitAt_37
abbrev rmX5_dressOf : Room := { frames := 0, cells := 0, slots := 0, locals := 0 }
set_option maxRecDepth 100000 in
set_option maxHeartbeats 4000000 in
theorem mX5_dressOf (G : ZG) (p0 : Int32) (Q : Int32 → Prop) (h : wpX5_dressOf p0 Q) : ZMi G yX5_dressOf wsX5_dressOf rmX5_dressOf [.int p0] ([]) (fun _ : Unit => []) (fun r _ => Q r) := by
  refine z_ofi (cc := cX5_dressOf) (N := 1) (lv := [(0, .int p0)]) (by decide) rfl (Nat.le_of_ble_eq_true rfl) rfl (fun E F hret => ?_)
  have F : ZF E 1 cX5_dressOf RX5 wsX5_dressOf rmX5_dressOf G := F
  skip
  unfold wpX5_dressOf at h
  refine z_iload_n F dX5_dressOf_0 rfl 0 rfl ?_
  refine z_bipush (v := 65) F dX5_dressOf_1 rfl ?_
  refine z_icmp_lt 19 F dX5_dressOf_3 (by decide) (fun c9 => ?_) (fun c9 => ?_)
  · have h := h.1 c9
    refine z_bipush (v := -6) F dX5_dressOf_19 rfl ?_
    exact hret (-6 : Int32) () _ _ h dX5_dressOf_21
  · have h := h.2 c9
    refine z_iload_n F dX5_dressOf_6 rfl 0 rfl ?_
    refine z_bipush (v := 71) F dX5_dressOf_7 rfl ?_
    refine z_icmp_ge 19 F dX5_dressOf_9 (by decide) (fun c9 => ?_) (fun c9 => ?_)
    · have h := h.1 c9
      refine z_bipush (v := -6) F dX5_dressOf_19 rfl ?_
      exact hret (-6 : Int32) () _ _ h dX5_dressOf_21
    · have h := h.2 c9
      refine z_iload_n F dX5_dressOf_12 rfl 0 rfl ?_
      refine z_bipush (v := 65) F dX5_dressOf_13 rfl ?_
      refine z_isub F dX5_dressOf_15 ?_
      refine z_goto 21 F dX5_dressOf_16 (by decide) ?_
      exact hret (p0 - (65 : Int32)) () _ _ h dX5_dressOf_21
abbrev rmX3_worth : Room := { frames := 0, cells := 0, slots := 0, locals := 0 }
set_option maxRecDepth 100000 in
set_option maxHeartbeats 4000000 in
theorem mX3_worth (G : ZG) (a : Nat → Nat) (vg : Gr) (p1 : Int32) (p2 : Int32) (Q : Int32 → Gr → Prop) (h : wpX3_worth vg p1 p2 Q) : ZMi G yX3_worth wsX3_worth rmX3_worth [.ref (a 0), .int p1, .int p2] (w_Gr G a vg) (fun vg : Gr => w_Gr G a vg) (Q) := by
  refine z_ofi (cc := cX3_worth) (N := 3) (lv := [(0, .ref (a 0)), (1, .int p1), (2, .int p2)]) (by decide) rfl (Nat.le_of_ble_eq_true rfl) rfl (fun E F hret => ?_)
  have F : ZF E 3 cX3_worth RX3 wsX3_worth rmX3_worth G := F
  have f0 : ZW E (.fieldLink RX3 18 "ColourEcho$Gorge" "dresses" "[I") := F.at 1 rfl
  have iX3 : ∀ x ∈ u_ws RX3 TX3 13, x ∈ wsX3_worth := fun _ h => List.mem_cons_of_mem _ (List.mem_append_right _ h)
  unfold wpX3_worth at h
  refine z_aload_n F dX3_worth_0 rfl 0 rfl ?_
  refine z_get (ci := 3) F iX3 0 rfl rfl 2 (by decide) f0 rfl rfl dX3_worth_1 ?_
  refine z_iload_n F dX3_worth_4 rfl 1 rfl ?_
  refine z_iconst (v := 3) F dX3_worth_5 rfl ?_
  refine z_imul F dX3_worth_6 ?_
  refine z_iload_n F dX3_worth_7 rfl 2 rfl ?_
  refine z_iadd F dX3_worth_8 ?_
  have h9 := h.1
  have h := h.2
  refine z_iald F 3 rfl h9 dX3_worth_9 ?_
  exact hret ((Gr_dresses vg) (((p1 * (3 : Int32)) + p2)).toNatClampNeg) vg _ _ h dX3_worth_10
abbrev rmX3_hindranceOfDress : Room := { frames := 1, cells := 0, slots := 0, locals := 22 }
set_option maxRecDepth 100000 in
set_option maxHeartbeats 4000000 in
theorem mX3_hindranceOfDress (G : ZG) (a : Nat → Nat) (vg : Gr) (p1 : Int32) (Q : Int32 → Gr → Prop) (h : wpX3_hindranceOfDress vg p1 Q) : ZMi G yX3_hindranceOfDress wsX3_hindranceOfDress rmX3_hindranceOfDress [.ref (a 0), .int p1] (w_Gr G a vg) (fun vg : Gr => w_Gr G a vg) (Q) := by
  refine z_ofi (cc := cX3_hindranceOfDress) (N := 3) (lv := [(0, .ref (a 0)), (1, .int p1)]) (by decide) rfl (Nat.le_of_ble_eq_true rfl) rfl (fun E F hret => ?_)
  have F : ZF E 3 cX3_hindranceOfDress RX3 wsX3_hindranceOfDress rmX3_hindranceOfDress G := F
  have f0 : ZW E (.fieldLink RX3 43 "ColourEcho$Gorge" "worn" "I") := F.at 2 rfl
  have f1 : ZW E (.initialized RX6) := F.at 10 rfl
  have f2 : ZW E (.static yX6_has) := F.at 9 rfl
  have f3 : ZW E (.fieldLink RX3 24 "ColourEcho$Gorge" "today" "[I") := F.at 1 rfl
  have iX3 : ∀ x ∈ u_ws RX3 TX3 13, x ∈ wsX3_hindranceOfDress := fun _ h => List.mem_cons_of_mem _ (List.mem_append_right _ h)
  have t2 : ∀ (n : Nat) (vg : Gr) (x1 : Int32) (x2 : Int32), wpX3_hindranceOfDress_L2 Q n vg x1 x2 → Z E 3 0 0 (w_Gr G a vg) [(0, .ref (a 0)), (1, .int x1), (2, .int x2)] 2 [] := by
    intro n
    induction n with
    | zero => intro vg x1 x2 h; exact h.elim
    | succ n ihQ =>
      have ih2 : ∀ (vg : Gr) (x1 : Int32) (x2 : Int32), wpX3_hindranceOfDress_L2 Q n vg x1 x2 → Z E 3 0 0 (w_Gr G a vg) [(0, .ref (a 0)), (1, .int x1), (2, .int x2)] 2 [] := ihQ
      intro vg x1 x2 h
      have h : wpX3_hindranceOfDress_H2 Q (wpX3_hindranceOfDress_L2 Q n) vg x1 x2 := h
      generalize wpX3_hindranceOfDress_L2 Q n = K2 at h ih2
      clear ihQ
      unfold wpX3_hindranceOfDress_H2 at h
      refine z_iload_n F dX3_hindranceOfDress_2 rfl 2 rfl ?_
      refine z_iconst (v := 3) F dX3_hindranceOfDress_3 rfl ?_
      refine z_icmp_ge 34 F dX3_hindranceOfDress_4 (by decide) (fun c9 => ?_) (fun c9 => ?_)
      · have h := h.1 c9
        refine z_aload_n F dX3_hindranceOfDress_34 rfl 0 rfl ?_
        refine z_get (ci := 3) F iX3 0 rfl rfl 10 (by decide) f0 rfl rfl dX3_hindranceOfDress_35 ?_
        refine z_iload_n F dX3_hindranceOfDress_38 rfl 1 rfl ?_
        refine z_callNi (fun _ => w_Gr G a vg) F (mX6_has G (Gr_worn vg) x1 _ h) gX3_hindranceOfDress_X6_has_n59 (List.mem_of_getElem? (i := 8) rfl) f1 f2 rfl hdX6_has ⟨rfl, rfl, Nat.le_of_ble_eq_true rfl, Nat.le_of_ble_eq_true rfl, Nat.le_of_ble_eq_true rfl, Nat.le_of_ble_eq_true rfl⟩ [] [0, 1, 2, 3, 4, 5, 6, 7] [0, 1, 2, 3, 4, 5, 6, 7] rfl rfl (by decide) (fun _ => rfl) rfl (Nat.le_of_ble_eq_true rfl) dX3_hindranceOfDress_39 (fun r_1 u9 h => ?_)
        refine z_if_eq 49 F dX3_hindranceOfDress_42 (by decide) (fun c9 => ?_) (fun c9 => ?_)
        · have h := h.1 c9
          refine z_iconst (v := 0) F dX3_hindranceOfDress_49 rfl ?_
          exact hret (0 : Int32) vg _ _ h dX3_hindranceOfDress_50
        · have h := h.2 c9
          refine z_iconst (v := 2) F dX3_hindranceOfDress_45 rfl ?_
          refine z_goto 50 F dX3_hindranceOfDress_46 (by decide) ?_
          exact hret (2 : Int32) vg _ _ h dX3_hindranceOfDress_50
      · have h := h.2 c9
        refine z_aload_n F dX3_hindranceOfDress_7 rfl 0 rfl ?_
        refine z_get (ci := 3) F iX3 0 rfl rfl 4 (by decide) f3 rfl rfl dX3_hindranceOfDress_8 ?_
        refine z_iload_n F dX3_hindranceOfDress_11 rfl 2 rfl ?_
        have h9 := h.1
        have h := h.2
        refine z_iald F 5 rfl h9 dX3_hindranceOfDress_12 ?_
        refine z_aload_n F dX3_hindranceOfDress_13 rfl 0 rfl ?_
        refine z_iload_n F dX3_hindranceOfDress_14 rfl 1 rfl ?_
        refine z_iload_n F dX3_hindranceOfDress_15 rfl 2 rfl ?_
        refine z_callVi (fun u9 => w_Gr G a u9) F (mX3_worth G a vg x1 x2 _ h) gX3_hindranceOfDress_X3_worth rfl hdX3_worth ⟨rfl, rfl, Nat.le_of_ble_eq_true rfl, Nat.le_of_ble_eq_true rfl, Nat.le_of_ble_eq_true rfl, Nat.le_of_ble_eq_true rfl⟩ 0 rfl rfl [0, 1, 2, 3, 4, 5, 6, 7] [] [0, 1, 2, 3, 4, 5, 6, 7] rfl rfl (by decide) (fun _ => rfl) rfl (Nat.le_of_ble_eq_true rfl) dX3_hindranceOfDress_16 (fun r_2 vg_3 h => ?_)
        refine z_iadd F dX3_hindranceOfDress_19 ?_
        refine z_sipush (v := 999) F dX3_hindranceOfDress_20 rfl ?_
        refine z_icmp_le 28 F dX3_hindranceOfDress_23 (by decide) (fun c9 => ?_) (fun c9 => ?_)
        · have h := h.1 c9
          obtain ⟨x2_4, e9⟩ : ∃ z : Int32, z = x2 + 1 := ⟨_, rfl⟩
          have h := h x2_4 e9
          refine z_iinc (v := x2_4) [(2, .int x2_4), (0, .ref (a 0)), (1, .int x1)] F dX3_hindranceOfDress_28 2 rfl (by rw [e9]; rfl) (by decide) rfl ?_
          refine z_goto 2 F dX3_hindranceOfDress_31 (by decide) ?_
          exact z_lv [1, 2, 0] rfl (ih2 vg_3 x1 x2_4 h)
        · have h := h.2 c9
          refine z_iconst (v := 1) F dX3_hindranceOfDress_26 rfl ?_
          exact hret (1 : Int32) vg_3 _ _ h dX3_hindranceOfDress_27
  unfold wpX3_hindranceOfDress at h
  refine z_iconst (v := 0) F dX3_hindranceOfDress_0 rfl ?_
  refine z_istore_n [(2, .int (0 : Int32)), (0, .ref (a 0)), (1, .int p1)] F dX3_hindranceOfDress_1 rfl (by decide) rfl ?_
  obtain ⟨n9, h⟩ := h
  exact z_lv [1, 2, 0] rfl (t2 n9 vg p1 (0 : Int32) h)
abbrev rmX6_isWall : Room := { frames := 1, cells := 0, slots := 0, locals := 22 }
set_option maxRecDepth 100000 in
set_option maxHeartbeats 4000000 in
theorem mX6_isWall (G : ZG) (p0 : Int32) (Q : Int32 → Prop) (h : wpX6_isWall p0 Q) : ZMi G yX6_isWall wsX6_isWall rmX6_isWall [.int p0] ([]) (fun _ : Unit => []) (fun r _ => Q r) := by
  refine z_ofz (cc := cX6_isWall) (N := 1) (lv := [(0, .int p0)]) (by decide) rfl (Nat.le_of_ble_eq_true rfl) rfl (fun E F hret => ?_)
  have F : ZF E 1 cX6_isWall RX6 wsX6_isWall rmX6_isWall G := F
  skip
  unfold wpX6_isWall at h
  refine z_iload_n F dX6_isWall_0 rfl 0 rfl ?_
  refine z_iconst (v := 0) F dX6_isWall_1 rfl ?_
  refine z_iconst (v := 3) F dX6_isWall_2 rfl ?_
  refine z_callSi (fun _ => []) F (mX6_isWithin G p0 (0 : Int32) (3 : Int32) _ h) gX6_isWall_X6_isWithin rfl hdX6_isWithin ⟨rfl, rfl, Nat.le_of_ble_eq_true rfl, Nat.le_of_ble_eq_true rfl, Nat.le_of_ble_eq_true rfl, Nat.le_of_ble_eq_true rfl⟩ [] [] [] rfl rfl (by decide) (fun _ => rfl) rfl (Nat.le_of_ble_eq_true rfl) dX6_isWall_3 (fun r_1 u9 h => ?_)
  have h9 := h.1
  have h := h.2
  exact hret r_1 () _ _ h dX6_isWall_6 (zbz_n h9)
abbrev rmX3_hindrance : Room := { frames := 2, cells := 0, slots := 0, locals := 44 }
set_option maxRecDepth 100000 in
set_option maxHeartbeats 4000000 in
theorem mX3_hindrance (G : ZG) (a : Nat → Nat) (vg : Gr) (p1 : Int32) (p2 : Int32) (Q : Int32 → Gr → Prop) (h : wpX3_hindrance vg p1 p2 Q) : ZMi G yX3_hindrance wsX3_hindrance rmX3_hindrance [.ref (a 0), .int p1, .int p2] (w_Gr G a vg) (fun vg : Gr => w_Gr G a vg) (Q) := by
  refine z_ofi (cc := cX3_hindrance) (N := 5) (lv := [(0, .ref (a 0)), (1, .int p1), (2, .int p2)]) (by decide) rfl (Nat.le_of_ble_eq_true rfl) rfl (fun E F hret => ?_)
  have F : ZF E 5 cX3_hindrance RX3 wsX3_hindrance rmX3_hindrance G := F
  have f0 : ZW E (.fieldLink RX3 40 "ColourEcho$Gorge" "day" "I") := F.at 3 rfl
  have f1 : ZW E (.initialized RX6) := F.at 23 rfl
  have f2 : ZW E (.static yX6_isWall) := F.at 25 rfl
  have f3 : ZW E (.fieldLink RX3 15 "ColourEcho$Gorge" "keeps" "[I") := F.at 2 rfl
  have f4 : ZW E (.fieldLink RX3 24 "ColourEcho$Gorge" "today" "[I") := F.at 1 rfl
  have iX3 : ∀ x ∈ u_ws RX3 TX3 13, x ∈ wsX3_hindrance := fun _ h => List.mem_cons_of_mem _ (List.mem_append_right _ h)
  unfold wpX3_hindrance at h
  refine z_iload_n F dX3_hindrance_0 rfl 1 rfl ?_
  refine z_callSi (fun _ => w_Gr G a vg) F (mX5_colourOf G p1 _ h) gX3_hindrance_X5_colourOf rfl hdX5_colourOf ⟨rfl, rfl, Nat.le_of_ble_eq_true rfl, Nat.le_of_ble_eq_true rfl, Nat.le_of_ble_eq_true rfl, Nat.le_of_ble_eq_true rfl⟩ [] [0, 1, 2, 3, 4, 5, 6, 7] [0, 1, 2, 3, 4, 5, 6, 7] rfl rfl (by decide) (fun _ => rfl) rfl (Nat.le_of_ble_eq_true rfl) dX3_hindrance_1 (fun r_1 u9 h => ?_)
  refine z_istore_n [(3, .int r_1), (0, .ref (a 0)), (1, .int p1), (2, .int p2)] F dX3_hindrance_4 rfl (by decide) rfl ?_
  refine z_iload_n F dX3_hindrance_5 rfl 0 rfl ?_
  refine z_bipush (v := -6) F dX3_hindrance_6 rfl ?_
  refine z_icmp_eq 34 F dX3_hindrance_8 (by decide) (fun c9 => ?_) (fun c9 => ?_)
  · have h := h.1 c9
    refine z_iload_n F dX3_hindrance_34 rfl 2 rfl ?_
    refine z_callSi (fun _ => w_Gr G a vg) F (mX5_dressOf G p1 _ h) gX3_hindrance_X5_dressOf rfl hdX5_dressOf ⟨rfl, rfl, Nat.le_of_ble_eq_true rfl, Nat.le_of_ble_eq_true rfl, Nat.le_of_ble_eq_true rfl, Nat.le_of_ble_eq_true rfl⟩ [] [0, 1, 2, 3, 4, 5, 6, 7] [0, 1, 2, 3, 4, 5, 6, 7] rfl rfl (by decide) (fun _ => rfl) rfl (Nat.le_of_ble_eq_true rfl) dX3_hindrance_35 (fun r_2 u9 h => ?_)
    refine z_istore [(4, .int r_2), (3, .int r_1), (0, .ref (a 0)), (1, .int p1), (2, .int p2)] F dX3_hindrance_38 (by decide) rfl ?_
    refine z_iload F dX3_hindrance_40 0 rfl ?_
    refine z_bipush (v := -6) F dX3_hindrance_42 rfl ?_
    refine z_icmp_eq 54 F dX3_hindrance_44 (by decide) (fun c9 => ?_) (fun c9 => ?_)
    · have h := h.1 c9
      refine z_iload_n F dX3_hindrance_54 rfl 3 rfl ?_
      refine z_bipush (v := 119) F dX3_hindrance_55 rfl ?_
      refine z_icmp_ne 82 F dX3_hindrance_57 (by decide) (fun c9 => ?_) (fun c9 => ?_)
      · have h := h.1 c9
        refine z_iload_n F dX3_hindrance_82 rfl 3 rfl ?_
        refine z_bipush (v := 46) F dX3_hindrance_83 rfl ?_
        refine z_icmp_ne 101 F dX3_hindrance_85 (by decide) (fun c9 => ?_) (fun c9 => ?_)
        · have h := h.1 c9
          refine z_iconst (v := 0) F dX3_hindrance_101 rfl ?_
          exact hret (0 : Int32) vg _ _ h dX3_hindrance_102
        · have h := h.2 c9
          refine z_aload_n F dX3_hindrance_88 rfl 2 rfl ?_
          refine z_get (ci := 3) F iX3 0 rfl rfl 9 (by decide) f0 rfl rfl dX3_hindrance_89 ?_
          refine z_bipush (v := 99) F dX3_hindrance_92 rfl ?_
          refine z_icmp_lt 101 F dX3_hindrance_94 (by decide) (fun c9 => ?_) (fun c9 => ?_)
          · have h := h.1 c9
            refine z_iconst (v := 0) F dX3_hindrance_101 rfl ?_
            exact hret (0 : Int32) vg _ _ h dX3_hindrance_102
          · have h := h.2 c9
            refine z_iconst (v := 4) F dX3_hindrance_97 rfl ?_
            refine z_goto 102 F dX3_hindrance_98 (by decide) ?_
            exact hret (4 : Int32) vg _ _ h dX3_hindrance_102
      · have h := h.2 c9
        refine z_iload_n F dX3_hindrance_60 rfl 4 rfl ?_
        refine z_callNi (fun _ => w_Gr G a vg) F (mX6_isWall G p2 _ h) gX3_hindrance_X6_isWall_n93 (List.mem_of_getElem? (i := 9) rfl) f1 f2 rfl hdX6_isWall ⟨rfl, rfl, Nat.le_of_ble_eq_true rfl, Nat.le_of_ble_eq_true rfl, Nat.le_of_ble_eq_true rfl, Nat.le_of_ble_eq_true rfl⟩ [] [0, 1, 2, 3, 4, 5, 6, 7] [0, 1, 2, 3, 4, 5, 6, 7] rfl rfl (by decide) (fun _ => rfl) rfl (Nat.le_of_ble_eq_true rfl) dX3_hindrance_61 (fun r_3 u9 h => ?_)
        refine z_if_eq 80 F dX3_hindrance_64 (by decide) (fun c9 => ?_) (fun c9 => ?_)
        · have h := h.1 c9
          refine z_iconst (v := 3) F dX3_hindrance_80 rfl ?_
          exact hret (3 : Int32) vg _ _ h dX3_hindrance_81
        · have h := h.2 c9
          refine z_aload_n F dX3_hindrance_67 rfl 2 rfl ?_
          refine z_get (ci := 3) F iX3 0 rfl rfl 1 (by decide) f3 rfl rfl dX3_hindrance_68 ?_
          refine z_iload_n F dX3_hindrance_71 rfl 4 rfl ?_
          have h9 := h.1
          have h := h.2
          refine z_iald F 2 rfl h9 dX3_hindrance_72 ?_
          refine z_if_le 80 F dX3_hindrance_73 (by decide) (fun c9 => ?_) (fun c9 => ?_)
          · have h := h.1 c9
            refine z_iconst (v := 3) F dX3_hindrance_80 rfl ?_
            exact hret (3 : Int32) vg _ _ h dX3_hindrance_81
          · have h := h.2 c9
            refine z_iconst (v := 0) F dX3_hindrance_76 rfl ?_
            refine z_goto 81 F dX3_hindrance_77 (by decide) ?_
            exact hret (0 : Int32) vg _ _ h dX3_hindrance_81
    · have h := h.2 c9
      refine z_aload_n F dX3_hindrance_47 rfl 2 rfl ?_
      refine z_iload F dX3_hindrance_48 0 rfl ?_
      refine z_callVi (fun u9 => w_Gr G a u9) F (mX3_hindranceOfDress G a vg r_2 _ h) gX3_hindrance_X3_hindranceOfDress rfl hdX3_hindranceOfDress ⟨rfl, rfl, Nat.le_of_ble_eq_true rfl, Nat.le_of_ble_eq_true rfl, Nat.le_of_ble_eq_true rfl, Nat.le_of_ble_eq_true rfl⟩ 0 rfl rfl [0, 1, 2, 3, 4, 5, 6, 7] [] [0, 1, 2, 3, 4, 5, 6, 7] rfl rfl (by decide) (fun _ => rfl) rfl (Nat.le_of_ble_eq_true rfl) dX3_hindrance_50 (fun r_4 vg_5 h => ?_)
      exact hret r_4 vg_5 _ _ h dX3_hindrance_53
  · have h := h.2 c9
    refine z_aload_n F dX3_hindrance_11 rfl 1 rfl ?_
    refine z_get (ci := 3) F iX3 0 rfl rfl 4 (by decide) f4 rfl rfl dX3_hindrance_12 ?_
    refine z_iload_n F dX3_hindrance_15 rfl 0 rfl ?_
    have h9 := h.1
    have h := h.2
    refine z_iald F 5 rfl h9 dX3_hindrance_16 ?_
    refine z_bipush (v := 10) F dX3_hindrance_17 rfl ?_
    refine z_iload_n F dX3_hindrance_19 rfl 3 rfl ?_
    refine z_imul F dX3_hindrance_20 ?_
    refine z_iadd F dX3_hindrance_21 ?_
    refine z_sipush (v := 999) F dX3_hindrance_22 rfl ?_
    refine z_icmp_le 32 F dX3_hindrance_25 (by decide) (fun c9 => ?_) (fun c9 => ?_)
    · have h := h.1 c9
      refine z_iconst (v := 0) F dX3_hindrance_32 rfl ?_
      exact hret (0 : Int32) vg _ _ h dX3_hindrance_33
    · have h := h.2 c9
      refine z_iconst (v := 1) F dX3_hindrance_28 rfl ?_
      refine z_goto 33 F dX3_hindrance_29 (by decide) ?_
      exact hret (1 : Int32) vg _ _ h dX3_hindrance_33
abbrev rmX3_isOver : Room := { frames := 2, cells := 0, slots := 0, locals := 46 }
set_option maxRecDepth 100000 in
set_option maxHeartbeats 4000000 in
theorem mX3_isOver (G : ZG) (a : Nat → Nat) (vg : Gr) (Q : Int32 → Gr → Prop) (h : wpX3_isOver vg Q) : ZMi G yX3_isOver wsX3_isOver rmX3_isOver [.ref (a 0)] (w_Gr G a vg) (fun vg : Gr => w_Gr G a vg) (Q) := by
  refine z_ofz (cc := cX3_isOver) (N := 1) (lv := [(0, .ref (a 0))]) (by decide) rfl (Nat.le_of_ble_eq_true rfl) rfl (fun E F hret => ?_)
  have F : ZF E 1 cX3_isOver RX3 wsX3_isOver rmX3_isOver G := F
  have f0 : ZW E (.fieldLink RX3 37 "ColourEcho$Gorge" "most" "I") := F.at 1 rfl
  have iX3 : ∀ x ∈ u_ws RX3 TX3 13, x ∈ wsX3_isOver := fun _ h => List.mem_cons_of_mem _ (List.mem_append_right _ h)
  unfold wpX3_isOver at h
  refine z_aload_n F dX3_isOver_0 rfl 0 rfl ?_
  refine z_iconst (v := 0) F dX3_isOver_1 rfl ?_
  refine z_iconst (v := 0) F dX3_isOver_2 rfl ?_
  refine z_callVi (fun u9 => w_Gr G a u9) F (mX3_seenToday G a vg (0 : Int32) (0 : Int32) _ h) gX3_isOver_X3_seenToday rfl hdX3_seenToday ⟨rfl, rfl, Nat.le_of_ble_eq_true rfl, Nat.le_of_ble_eq_true rfl, Nat.le_of_ble_eq_true rfl, Nat.le_of_ble_eq_true rfl⟩ 0 rfl rfl [0, 1, 2, 3, 4, 5, 6, 7] [] [0, 1, 2, 3, 4, 5, 6, 7] rfl rfl (by decide) (fun _ => rfl) rfl (Nat.le_of_ble_eq_true rfl) dX3_isOver_3 (fun r_1 vg_2 h => ?_)
  refine z_aload_n F dX3_isOver_6 rfl 0 rfl ?_
  refine z_get (ci := 3) F iX3 0 rfl rfl 8 (by decide) f0 rfl rfl dX3_isOver_7 ?_
  refine z_icmp_gt 39 F dX3_isOver_10 (by decide) (fun c9 => ?_) (fun c9 => ?_)
  · have h := h.1 c9
    refine z_iconst (v := 1) F dX3_isOver_39 rfl ?_
    refine z_goto 44 F dX3_isOver_40 (by decide) ?_
    exact hret (1 : Int32) vg_2 _ _ h dX3_isOver_44 (by decide)
  · have h := h.2 c9
    refine z_aload_n F dX3_isOver_13 rfl 0 rfl ?_
    refine z_iconst (v := 1) F dX3_isOver_14 rfl ?_
    refine z_iconst (v := 0) F dX3_isOver_15 rfl ?_
    refine z_callVi (fun u9 => w_Gr G a u9) F (mX3_seenToday G a vg_2 (1 : Int32) (0 : Int32) _ h) gX3_isOver_X3_seenToday rfl hdX3_seenToday ⟨rfl, rfl, Nat.le_of_ble_eq_true rfl, Nat.le_of_ble_eq_true rfl, Nat.le_of_ble_eq_true rfl, Nat.le_of_ble_eq_true rfl⟩ 0 rfl rfl [0, 1, 2, 3, 4, 5, 6, 7] [] [0, 1, 2, 3, 4, 5, 6, 7] rfl rfl (by decide) (fun _ => rfl) rfl (Nat.le_of_ble_eq_true rfl) dX3_isOver_16 (fun r_3 vg_4 h => ?_)
    refine z_aload_n F dX3_isOver_19 rfl 0 rfl ?_
    refine z_get (ci := 3) F iX3 0 rfl rfl 8 (by decide) f0 rfl rfl dX3_isOver_20 ?_
    refine z_icmp_gt 39 F dX3_isOver_23 (by decide) (fun c9 => ?_) (fun c9 => ?_)
    · have h := h.1 c9
      refine z_iconst (v := 1) F dX3_isOver_39 rfl ?_
      refine z_goto 44 F dX3_isOver_40 (by decide) ?_
      exact hret (1 : Int32) vg_4 _ _ h dX3_isOver_44 (by decide)
    · have h := h.2 c9
      refine z_aload_n F dX3_isOver_26 rfl 0 rfl ?_
      refine z_iconst (v := 2) F dX3_isOver_27 rfl ?_
      refine z_iconst (v := 0) F dX3_isOver_28 rfl ?_
      refine z_callVi (fun u9 => w_Gr G a u9) F (mX3_seenToday G a vg_4 (2 : Int32) (0 : Int32) _ h) gX3_isOver_X3_seenToday rfl hdX3_seenToday ⟨rfl, rfl, Nat.le_of_ble_eq_true rfl, Nat.le_of_ble_eq_true rfl, Nat.le_of_ble_eq_true rfl, Nat.le_of_ble_eq_true rfl⟩ 0 rfl rfl [0, 1, 2, 3, 4, 5, 6, 7] [] [0, 1, 2, 3, 4, 5, 6, 7] rfl rfl (by decide) (fun _ => rfl) rfl (Nat.le_of_ble_eq_true rfl) dX3_isOver_29 (fun r_5 vg_6 h => ?_)
      refine z_aload_n F dX3_isOver_32 rfl 0 rfl ?_
      refine z_get (ci := 3) F iX3 0 rfl rfl 8 (by decide) f0 rfl rfl dX3_isOver_33 ?_
      refine z_icmp_le 43 F dX3_isOver_36 (by decide) (fun c9 => ?_) (fun c9 => ?_)
      · have h := h.1 c9
        refine z_iconst (v := 0) F dX3_isOver_43 rfl ?_
        exact hret (0 : Int32) vg_6 _ _ h dX3_isOver_44 (by decide)
      · have h := h.2 c9
        refine z_iconst (v := 1) F dX3_isOver_39 rfl ?_
        refine z_goto 44 F dX3_isOver_40 (by decide) ?_
        exact hret (1 : Int32) vg_6 _ _ h dX3_isOver_44 (by decide)
abbrev rmX3_wear : Room := { frames := 1, cells := 0, slots := 0, locals := 22 }
set_option maxRecDepth 100000 in
set_option maxHeartbeats 4000000 in
theorem mX3_wear (G : ZG) (a : Nat → Nat) (vg : Gr) (p1 : Int32) (Q : Gr → Prop) (h : wpX3_wear vg p1 Q) : ZMv G yX3_wear wsX3_wear rmX3_wear [.ref (a 0), .int p1] (w_Gr G a vg) (fun vg : Gr => w_Gr G a vg) (Q) := by
  refine z_ofv (cc := cX3_wear) (N := 3) (lv := [(0, .ref (a 0)), (1, .int p1)]) (by decide) rfl (Nat.le_of_ble_eq_true rfl) rfl (fun E F hret => ?_)
  have F : ZF E 3 cX3_wear RX3 wsX3_wear rmX3_wear G := F
  have f0 : ZW E (.fieldLink RX3 43 "ColourEcho$Gorge" "worn" "I") := F.at 2 rfl
  have f1 : ZW E (.fieldLink RX3 24 "ColourEcho$Gorge" "today" "[I") := F.at 1 rfl
  have iX3 : ∀ x ∈ u_ws RX3 TX3 13, x ∈ wsX3_wear := fun _ h => List.mem_cons_of_mem _ (List.mem_append_right _ h)
  have t2 : ∀ (n : Nat) (vg : Gr) (x1 : Int32) (x2 : Int32), wpX3_wear_L2 Q n vg x1 x2 → Z E 3 0 0 (w_Gr G a vg) [(0, .ref (a 0)), (1, .int x1), (2, .int x2)] 2 [] := by
    intro n
    induction n with
    | zero => intro vg x1 x2 h; exact h.elim
    | succ n ihQ =>
      have ih2 : ∀ (vg : Gr) (x1 : Int32) (x2 : Int32), wpX3_wear_L2 Q n vg x1 x2 → Z E 3 0 0 (w_Gr G a vg) [(0, .ref (a 0)), (1, .int x1), (2, .int x2)] 2 [] := ihQ
      intro vg x1 x2 h
      have h : wpX3_wear_H2 Q (wpX3_wear_L2 Q n) vg x1 x2 := h
      generalize wpX3_wear_L2 Q n = K2 at h ih2
      clear ihQ
      unfold wpX3_wear_H2 at h
      refine z_iload_n F dX3_wear_2 rfl 2 rfl ?_
      refine z_iconst (v := 3) F dX3_wear_3 rfl ?_
      refine z_icmp_ge 28 F dX3_wear_4 (by decide) (fun c9 => ?_) (fun c9 => ?_)
      · have h := h.1 c9
        refine z_aload_n F dX3_wear_28 rfl 0 rfl ?_
        refine z_dup F dX3_wear_29 rfl ?_
        refine z_get (ci := 3) F iX3 0 rfl rfl 10 (by decide) f0 rfl rfl dX3_wear_30 ?_
        refine z_iconst (v := 1) F dX3_wear_33 rfl ?_
        refine z_iload_n F dX3_wear_34 rfl 1 rfl ?_
        refine z_ishl F dX3_wear_35 ?_
        refine z_ior F dX3_wear_36 ?_
        refine z_put (ci := 3) (ty := .int) (w_Gr G a (Gr_s_worn vg ((Gr_worn vg) ||| ((1 : Int32) <<< (x1 &&& 31))))) F iX3 tyX3 tyX3_ok nmX3 0 rfl rfl 10 (by decide) f0 rfl rfl rfl rfl rfl (Nat.le_of_ble_eq_true rfl) rfl dX3_wear_37 ?_
        exact hret (Gr_s_worn vg ((Gr_worn vg) ||| ((1 : Int32) <<< (x1 &&& 31)))) _ _ h dX3_wear_40
      · have h := h.2 c9
        refine z_aload_n F dX3_wear_7 rfl 0 rfl ?_
        refine z_get (ci := 3) F iX3 0 rfl rfl 4 (by decide) f1 rfl rfl dX3_wear_8 ?_
        refine z_iload_n F dX3_wear_11 rfl 2 rfl ?_
        refine z_dup2 F dX3_wear_12 rfl rfl ?_
        have h9 := h.1
        have h := h.2
        refine z_iald F 5 rfl h9 dX3_wear_13 ?_
        refine z_aload_n F dX3_wear_14 rfl 0 rfl ?_
        refine z_iload_n F dX3_wear_15 rfl 1 rfl ?_
        refine z_iload_n F dX3_wear_16 rfl 2 rfl ?_
        refine z_callVi (fun u9 => w_Gr G a u9) F (mX3_worth G a vg x1 x2 _ h) gX3_wear_X3_worth rfl hdX3_worth ⟨rfl, rfl, Nat.le_of_ble_eq_true rfl, Nat.le_of_ble_eq_true rfl, Nat.le_of_ble_eq_true rfl, Nat.le_of_ble_eq_true rfl⟩ 0 rfl rfl [0, 1, 2, 3, 4, 5, 6, 7] [] [0, 1, 2, 3, 4, 5, 6, 7] rfl rfl (by decide) (fun _ => rfl) rfl (Nat.le_of_ble_eq_true rfl) dX3_wear_17 (fun r_1 vg_2 h => ?_)
        refine z_iadd F dX3_wear_20 ?_
        have h9 := h.1
        have h := h.2
        refine z_iast (w_Gr G a (Gr_s_today vg_2 (upd (Gr_today vg_2) (x2).toNatClampNeg (((Gr_today vg) (x2).toNatClampNeg) + r_1)))) F 5 rfl h9 rfl dX3_wear_21 ?_
        obtain ⟨x2_3, e9⟩ : ∃ z : Int32, z = x2 + 1 := ⟨_, rfl⟩
        have h := h x2_3 e9
        refine z_iinc (v := x2_3) [(2, .int x2_3), (0, .ref (a 0)), (1, .int x1)] F dX3_wear_22 2 rfl (by rw [e9]; rfl) (by decide) rfl ?_
        refine z_goto 2 F dX3_wear_25 (by decide) ?_
        exact z_lv [1, 2, 0] rfl (ih2 (Gr_s_today vg_2 (upd (Gr_today vg_2) (x2).toNatClampNeg (((Gr_today vg) (x2).toNatClampNeg) + r_1))) x1 x2_3 h)
  unfold wpX3_wear at h
  refine z_iconst (v := 0) F dX3_wear_0 rfl ?_
  refine z_istore_n [(2, .int (0 : Int32)), (0, .ref (a 0)), (1, .int p1)] F dX3_wear_1 rfl (by decide) rfl ?_
  obtain ⟨n9, h⟩ := h
  exact z_lv [1, 2, 0] rfl (t2 n9 vg p1 (0 : Int32) h)
abbrev rmX3_endDay : Room := { frames := 2, cells := 0, slots := 0, locals := 46 }
set_option maxRecDepth 100000 in
set_option maxHeartbeats 4000000 in
theorem mX3_endDay (G : ZG) (a : Nat → Nat) (vg : Gr) (Q : Gr → Prop) (h : wpX3_endDay vg Q) : ZMv G yX3_endDay wsX3_endDay rmX3_endDay [.ref (a 0)] (w_Gr G a vg) (fun vg : Gr => w_Gr G a vg) (Q) := by
  refine z_ofv (cc := cX3_endDay) (N := 5) (lv := [(0, .ref (a 0))]) (by decide) rfl (Nat.le_of_ble_eq_true rfl) rfl (fun E F hret => ?_)
  have F : ZF E 5 cX3_endDay RX3 wsX3_endDay rmX3_endDay G := F
  have f0 : ZW E (.fieldLink RX3 40 "ColourEcho$Gorge" "day" "I") := F.at 4 rfl
  have f1 : ZW E (.fieldLink RX3 43 "ColourEcho$Gorge" "worn" "I") := F.at 5 rfl
  have f2 : ZW E (.fieldLink RX3 46 "ColourEcho$Gorge" "fog" "Z") := F.at 6 rfl
  have f3 : ZW E (.fieldLink RX3 50 "ColourEcho$Gorge" "snow" "Z") := F.at 2 rfl
  have f4 : ZW E (.fieldLink RX3 21 "ColourEcho$Gorge" "past" "[I") := F.at 1 rfl
  have f5 : ZW E (.fieldLink RX3 24 "ColourEcho$Gorge" "today" "[I") := F.at 3 rfl
  have iX3 : ∀ x ∈ u_ws RX3 TX3 13, x ∈ wsX3_endDay := fun _ h => List.mem_cons_of_mem _ (List.mem_append_right _ h)
  have t58 : ∀ (K2 : Gr → Int32 → Prop) (K23 : Gr → Int32 → Int32 → Int32 → Int32 → Prop) (ih2 : ∀ (vg : Gr) (x1 : Int32), K2 vg x1 → Z E 5 0 0 (w_Gr G a vg) [(0, .ref (a 0)), (1, .int x1)] 2 []) (ih23 : ∀ (vg : Gr) (x1 : Int32) (x2 : Int32) (x3 : Int32) (x4 : Int32), K23 vg x1 x2 x3 x4 → Z E 5 0 0 (w_Gr G a vg) [(0, .ref (a 0)), (1, .int x1), (2, .int x2), (3, .int x3), (4, .int x4)] 23 []) (vg : Gr) (x1 : Int32) (x2 : Int32) (x3 : Int32) (x4 : Int32) (s1 : Int32) (s2 : Int32), wpX3_endDay_B58 Q K2 K23 vg x1 x2 x3 x4 s1 s2 → Z E 5 0 0 (w_Gr G a vg) [(0, .ref (a 0)), (1, .int x1), (2, .int x2), (3, .int x3), (4, .int x4)] 58 [.int s2, .int s1, .ref (a 4)] := by
    intro K2 K23 ih2 ih23 vg x1 x2 x3 x4 s1 s2 h
    unfold wpX3_endDay_B58 at h
    have h9 := h.1
    have h := h.2
    refine z_iast (w_Gr G a (Gr_s_past vg (upd (Gr_past vg) (s1).toNatClampNeg s2))) F 4 rfl h9 rfl dX3_endDay_58 ?_
    obtain ⟨x4_5, e9⟩ : ∃ z : Int32, z = x4 + (-1) := ⟨_, rfl⟩
    have h := h x4_5 e9
    refine z_iinc (v := x4_5) [(4, .int x4_5), (0, .ref (a 0)), (1, .int x1), (2, .int x2), (3, .int x3)] F dX3_endDay_59 4 rfl (by rw [e9]; rfl) (by decide) rfl ?_
    refine z_goto 23 F dX3_endDay_62 (by decide) ?_
    exact z_lv [1, 2, 3, 4, 0] rfl (ih23 (Gr_s_past vg (upd (Gr_past vg) (s1).toNatClampNeg s2)) x1 x2 x3 x4_5 h)
  have t23 : ∀ (K2 : Gr → Int32 → Prop) (ih2 : ∀ (vg : Gr) (x1 : Int32), K2 vg x1 → Z E 5 0 0 (w_Gr G a vg) [(0, .ref (a 0)), (1, .int x1)] 2 []) (n : Nat) (vg : Gr) (x1 : Int32) (x2 : Int32) (x3 : Int32) (x4 : Int32), wpX3_endDay_L23 Q K2 n vg x1 x2 x3 x4 → Z E 5 0 0 (w_Gr G a vg) [(0, .ref (a 0)), (1, .int x1), (2, .int x2), (3, .int x3), (4, .int x4)] 23 [] := by
    intro K2 ih2 n
    induction n with
    | zero => intro vg x1 x2 x3 x4 h; exact h.elim
    | succ n ihQ =>
      have ih23 : ∀ (vg : Gr) (x1 : Int32) (x2 : Int32) (x3 : Int32) (x4 : Int32), wpX3_endDay_L23 Q K2 n vg x1 x2 x3 x4 → Z E 5 0 0 (w_Gr G a vg) [(0, .ref (a 0)), (1, .int x1), (2, .int x2), (3, .int x3), (4, .int x4)] 23 [] := ihQ
      intro vg x1 x2 x3 x4 h
      have h : wpX3_endDay_H23 Q K2 (wpX3_endDay_L23 Q K2 n) vg x1 x2 x3 x4 := h
      generalize wpX3_endDay_L23 Q K2 n = K23 at h ih23
      clear ihQ
      unfold wpX3_endDay_H23 at h
      refine z_iload F dX3_endDay_23 4 rfl ?_
      refine z_if_le 65 F dX3_endDay_25 (by decide) (fun c9 => ?_) (fun c9 => ?_)
      · have h := h.1 c9
        refine z_aload_n F dX3_endDay_65 rfl 0 rfl ?_
        refine z_get (ci := 3) F iX3 0 rfl rfl 3 (by decide) f4 rfl rfl dX3_endDay_66 ?_
        refine z_iload_n F dX3_endDay_69 rfl 3 rfl ?_
        refine z_iload_n F dX3_endDay_70 rfl 2 rfl ?_
        have h9 := h.1
        have h := h.2
        refine z_iast (w_Gr G a (Gr_s_past vg (upd (Gr_past vg) (x3).toNatClampNeg x2))) F 4 rfl h9 rfl dX3_endDay_71 ?_
        refine z_aload_n F dX3_endDay_72 rfl 0 rfl ?_
        refine z_get (ci := 3) F iX3 0 rfl rfl 4 (by decide) f5 rfl rfl dX3_endDay_73 ?_
        refine z_iload_n F dX3_endDay_76 rfl 1 rfl ?_
        refine z_iconst (v := 0) F dX3_endDay_77 rfl ?_
        have h9 := h.1
        have h := h.2
        refine z_iast (f := (Gr_today vg)) (w_Gr G a (Gr_s_today (Gr_s_past vg (upd (Gr_past vg) (x3).toNatClampNeg x2)) (upd (Gr_today vg) (x1).toNatClampNeg (0 : Int32)))) F 5 rfl h9 rfl dX3_endDay_78 ?_
        obtain ⟨x1_4, e9⟩ : ∃ z : Int32, z = x1 + 1 := ⟨_, rfl⟩
        have h := h x1_4 e9
        refine z_iinc (v := x1_4) [(1, .int x1_4), (0, .ref (a 0)), (2, .int x2), (3, .int x3), (4, .int x4)] F dX3_endDay_79 1 rfl (by rw [e9]; rfl) (by decide) rfl ?_
        refine z_goto 2 F dX3_endDay_82 (by decide) ?_
        exact z_lv [1, 0] rfl (ih2 (Gr_s_today (Gr_s_past vg (upd (Gr_past vg) (x3).toNatClampNeg x2)) (upd (Gr_today vg) (x1).toNatClampNeg (0 : Int32))) x1_4 h)
      · have h := h.2 c9
        refine z_aload_n F dX3_endDay_28 rfl 0 rfl ?_
        refine z_get (ci := 3) F iX3 0 rfl rfl 3 (by decide) f4 rfl rfl dX3_endDay_29 ?_
        refine z_iload_n F dX3_endDay_32 rfl 3 rfl ?_
        refine z_iload F dX3_endDay_33 4 rfl ?_
        refine z_iadd F dX3_endDay_35 ?_
        refine z_aload_n F dX3_endDay_36 rfl 0 rfl ?_
        refine z_get (ci := 3) F iX3 0 rfl rfl 12 (by decide) f3 rfl rfl dX3_endDay_37 ?_
        refine z_if_eq 47 F dX3_endDay_40 (by decide) (fun c9 => ?_) (fun c9 => ?_)
        · have h := h.1 c9
          refine z_aload_n F dX3_endDay_47 rfl 0 rfl ?_
          refine z_get (ci := 3) F iX3 0 rfl rfl 3 (by decide) f4 rfl rfl dX3_endDay_48 ?_
          refine z_iload_n F dX3_endDay_51 rfl 3 rfl ?_
          refine z_iload F dX3_endDay_52 4 rfl ?_
          refine z_iadd F dX3_endDay_54 ?_
          refine z_iconst (v := 1) F dX3_endDay_55 rfl ?_
          refine z_isub F dX3_endDay_56 ?_
          have h9 := h.1
          have h := h.2
          refine z_iald F 4 rfl h9 dX3_endDay_57 ?_
          exact z_lv [0, 1, 2, 3, 4] rfl (t58 K2 K23 ih2 ih23 vg x1 x2 x3 x4 (x3 + x4) ((Gr_past vg) (((x3 + x4) - (1 : Int32))).toNatClampNeg) h)
        · have h := h.2 c9
          refine z_iconst (v := 0) F dX3_endDay_43 rfl ?_
          refine z_goto 58 F dX3_endDay_44 (by decide) ?_
          exact z_lv [0, 1, 2, 3, 4] rfl (t58 K2 K23 ih2 ih23 vg x1 x2 x3 x4 (x3 + x4) (0 : Int32) h)
  have t2 : ∀ (n : Nat) (vg : Gr) (x1 : Int32), wpX3_endDay_L2 Q n vg x1 → Z E 5 0 0 (w_Gr G a vg) [(0, .ref (a 0)), (1, .int x1)] 2 [] := by
    intro n
    induction n with
    | zero => intro vg x1 h; exact h.elim
    | succ n ihQ =>
      have ih2 : ∀ (vg : Gr) (x1 : Int32), wpX3_endDay_L2 Q n vg x1 → Z E 5 0 0 (w_Gr G a vg) [(0, .ref (a 0)), (1, .int x1)] 2 [] := ihQ
      intro vg x1 h
      have h : wpX3_endDay_H2 Q (wpX3_endDay_L2 Q n) vg x1 := h
      generalize wpX3_endDay_L2 Q n = K2 at h ih2
      clear ihQ
      unfold wpX3_endDay_H2 at h
      refine z_iload_n F dX3_endDay_2 rfl 1 rfl ?_
      refine z_iconst (v := 3) F dX3_endDay_3 rfl ?_
      refine z_icmp_ge 85 F dX3_endDay_4 (by decide) (fun c9 => ?_) (fun c9 => ?_)
      · have h := h.1 c9
        refine z_aload_n F dX3_endDay_85 rfl 0 rfl ?_
        refine z_dup F dX3_endDay_86 rfl ?_
        refine z_get (ci := 3) F iX3 0 rfl rfl 9 (by decide) f0 rfl rfl dX3_endDay_87 ?_
        refine z_iconst (v := 1) F dX3_endDay_90 rfl ?_
        refine z_iadd F dX3_endDay_91 ?_
        refine z_put (ci := 3) (ty := .int) (w_Gr G a (Gr_s_day vg ((Gr_day vg) + (1 : Int32)))) F iX3 tyX3 tyX3_ok nmX3 0 rfl rfl 9 (by decide) f0 rfl rfl rfl rfl rfl (Nat.le_of_ble_eq_true rfl) rfl dX3_endDay_92 ?_
        refine z_aload_n F dX3_endDay_95 rfl 0 rfl ?_
        refine z_iconst (v := 0) F dX3_endDay_96 rfl ?_
        refine z_put (ci := 3) (ty := .int) (w_Gr G a (Gr_s_worn (Gr_s_day vg ((Gr_day vg) + (1 : Int32))) (0 : Int32))) F iX3 tyX3 tyX3_ok nmX3 0 rfl rfl 10 (by decide) f1 rfl rfl rfl rfl rfl (Nat.le_of_ble_eq_true rfl) rfl dX3_endDay_97 ?_
        refine z_aload_n F dX3_endDay_100 rfl 0 rfl ?_
        refine z_iconst (v := 0) F dX3_endDay_101 rfl ?_
        refine z_put (ci := 3) (ty := .boolean) (w_Gr G a (Gr_s_fog (Gr_s_worn (Gr_s_day vg ((Gr_day vg) + (1 : Int32))) (0 : Int32)) (0 : Int32))) F iX3 tyX3 tyX3_ok nmX3 0 rfl rfl 11 (by decide) f2 rfl rfl rfl (by decide) (by decide) (Nat.le_of_ble_eq_true rfl) rfl dX3_endDay_102 ?_
        refine z_aload_n F dX3_endDay_105 rfl 0 rfl ?_
        refine z_iconst (v := 0) F dX3_endDay_106 rfl ?_
        refine z_put (ci := 3) (ty := .boolean) (w_Gr G a (Gr_s_snow (Gr_s_fog (Gr_s_worn (Gr_s_day vg ((Gr_day vg) + (1 : Int32))) (0 : Int32)) (0 : Int32)) (0 : Int32))) F iX3 tyX3 tyX3_ok nmX3 0 rfl rfl 12 (by decide) f3 rfl rfl rfl (by decide) (by decide) (Nat.le_of_ble_eq_true rfl) rfl dX3_endDay_107 ?_
        exact hret (Gr_s_snow (Gr_s_fog (Gr_s_worn (Gr_s_day vg ((Gr_day vg) + (1 : Int32))) (0 : Int32)) (0 : Int32)) (0 : Int32)) _ _ h dX3_endDay_110
      · have h := h.2 c9
        refine z_aload_n F dX3_endDay_7 rfl 0 rfl ?_
        refine z_iload_n F dX3_endDay_8 rfl 1 rfl ?_
        refine z_iconst (v := 0) F dX3_endDay_9 rfl ?_
        refine z_callVi (fun u9 => w_Gr G a u9) F (mX3_seenToday G a vg x1 (0 : Int32) _ h) gX3_endDay_X3_seenToday rfl hdX3_seenToday ⟨rfl, rfl, Nat.le_of_ble_eq_true rfl, Nat.le_of_ble_eq_true rfl, Nat.le_of_ble_eq_true rfl, Nat.le_of_ble_eq_true rfl⟩ 0 rfl rfl [0, 1, 2, 3, 4, 5, 6, 7] [] [0, 1, 2, 3, 4, 5, 6, 7] rfl rfl (by decide) (fun _ => rfl) rfl (Nat.le_of_ble_eq_true rfl) dX3_endDay_10 (fun r_1 vg_2 h => ?_)
        refine z_istore_n [(2, .int r_1), (0, .ref (a 0)), (1, .int x1)] F dX3_endDay_13 rfl (by decide) rfl ?_
        refine z_iload_n F dX3_endDay_14 rfl 2 rfl ?_
        refine z_bipush (v := 9) F dX3_endDay_15 rfl ?_
        refine z_imul F dX3_endDay_17 ?_
        refine z_topi (fun x3_3 e9 => ?_)
        have h := h x3_3 e9
        refine z_istore_n [(3, .int x3_3), (2, .int r_1), (0, .ref (a 0)), (1, .int x1)] F dX3_endDay_18 rfl (by decide) rfl ?_
        refine z_bipush (v := 8) F dX3_endDay_19 rfl ?_
        refine z_istore [(4, .int (8 : Int32)), (3, .int x3_3), (2, .int r_1), (0, .ref (a 0)), (1, .int x1)] F dX3_endDay_21 (by decide) rfl ?_
        obtain ⟨n9, h⟩ := h
        exact z_lv [3, 4, 2, 1, 0] rfl (t23 K2 ih2 n9 vg_2 x1 r_1 x3_3 (8 : Int32) h)
  unfold wpX3_endDay at h
  refine z_iconst (v := 0) F dX3_endDay_0 rfl ?_
  refine z_istore_n [(1, .int (0 : Int32)), (0, .ref (a 0))] F dX3_endDay_1 rfl (by decide) rfl ?_
  obtain ⟨n9, h⟩ := h
  exact z_lv [1, 0] rfl (t2 n9 vg (0 : Int32) h)
abbrev rmX3_act : Room := { frames := 3, cells := 0, slots := 0, locals := 70 }
set_option maxRecDepth 100000 in
set_option maxHeartbeats 4000000 in
theorem mX3_act (G : ZG) (a : Nat → Nat) (vg : Gr) (p1 : Int32) (p2 : Int32) (Q : Gr → Prop) (h : wpX3_act vg p1 p2 Q) : ZMv G yX3_act wsX3_act rmX3_act [.ref (a 0), .int p1, .int p2] (w_Gr G a vg) (fun vg : Gr => w_Gr G a vg) (Q) := by
  refine z_ofv (cc := cX3_act) (N := 5) (lv := [(0, .ref (a 0)), (1, .int p1), (2, .int p2)]) (by decide) rfl (Nat.le_of_ble_eq_true rfl) rfl (fun E F hret => ?_)
  have F : ZF E 5 cX3_act RX3 wsX3_act rmX3_act G := F
  have f0 : ZW E (.initialized RX6) := F.at 39 rfl
  have f1 : ZW E (.static yX6_isWall) := F.at 41 rfl
  have f2 : ZW E (.fieldLink RX3 15 "ColourEcho$Gorge" "keeps" "[I") := F.at 4 rfl
  have f3 : ZW E (.fieldLink RX3 50 "ColourEcho$Gorge" "snow" "Z") := F.at 3 rfl
  have f4 : ZW E (.fieldLink RX3 46 "ColourEcho$Gorge" "fog" "Z") := F.at 2 rfl
  have f5 : ZW E (.fieldLink RX3 24 "ColourEcho$Gorge" "today" "[I") := F.at 1 rfl
  have iX3 : ∀ x ∈ u_ws RX3 TX3 13, x ∈ wsX3_act := fun _ h => List.mem_cons_of_mem _ (List.mem_append_right _ h)
  unfold wpX3_act at h
  refine z_iload_n F dX3_act_0 rfl 1 rfl ?_
  refine z_callSi (fun _ => w_Gr G a vg) F (mX5_colourOf G p1 _ h) gX3_act_X5_colourOf rfl hdX5_colourOf ⟨rfl, rfl, Nat.le_of_ble_eq_true rfl, Nat.le_of_ble_eq_true rfl, Nat.le_of_ble_eq_true rfl, Nat.le_of_ble_eq_true rfl⟩ [] [0, 1, 2, 3, 4, 5, 6, 7] [0, 1, 2, 3, 4, 5, 6, 7] rfl rfl (by decide) (fun _ => rfl) rfl (Nat.le_of_ble_eq_true rfl) dX3_act_1 (fun r_1 u9 h => ?_)
  refine z_istore_n [(3, .int r_1), (0, .ref (a 0)), (1, .int p1), (2, .int p2)] F dX3_act_4 rfl (by decide) rfl ?_
  refine z_iload_n F dX3_act_5 rfl 2 rfl ?_
  refine z_callSi (fun _ => w_Gr G a vg) F (mX5_dressOf G p1 _ h) gX3_act_X5_dressOf rfl hdX5_dressOf ⟨rfl, rfl, Nat.le_of_ble_eq_true rfl, Nat.le_of_ble_eq_true rfl, Nat.le_of_ble_eq_true rfl, Nat.le_of_ble_eq_true rfl⟩ [] [0, 1, 2, 3, 4, 5, 6, 7] [0, 1, 2, 3, 4, 5, 6, 7] rfl rfl (by decide) (fun _ => rfl) rfl (Nat.le_of_ble_eq_true rfl) dX3_act_6 (fun r_2 u9 h => ?_)
  refine z_istore [(4, .int r_2), (3, .int r_1), (0, .ref (a 0)), (1, .int p1), (2, .int p2)] F dX3_act_9 (by decide) rfl ?_
  refine z_iload_n F dX3_act_11 rfl 1 rfl ?_
  refine z_bipush (v := -6) F dX3_act_12 rfl ?_
  refine z_icmp_eq 33 F dX3_act_14 (by decide) (fun c9 => ?_) (fun c9 => ?_)
  · have h := h.1 c9
    refine z_iload F dX3_act_33 0 rfl ?_
    refine z_bipush (v := -6) F dX3_act_35 rfl ?_
    refine z_icmp_eq 49 F dX3_act_37 (by decide) (fun c9 => ?_) (fun c9 => ?_)
    · have h := h.1 c9
      refine z_iload_n F dX3_act_49 rfl 3 rfl ?_
      refine z_bipush (v := 102) F dX3_act_50 rfl ?_
      refine z_icmp_ne 74 F dX3_act_52 (by decide) (fun c9 => ?_) (fun c9 => ?_)
      · have h := h.1 c9
        refine z_iload_n F dX3_act_74 rfl 3 rfl ?_
        refine z_bipush (v := 115) F dX3_act_75 rfl ?_
        refine z_icmp_ne 99 F dX3_act_77 (by decide) (fun c9 => ?_) (fun c9 => ?_)
        · have h := h.1 c9
          refine z_iload_n F dX3_act_99 rfl 3 rfl ?_
          refine z_bipush (v := 46) F dX3_act_100 rfl ?_
          refine z_icmp_ne 112 F dX3_act_102 (by decide) (fun c9 => ?_) (fun c9 => ?_)
          · have h := h.1 c9
            refine z_iload_n F dX3_act_112 rfl 3 rfl ?_
            refine z_bipush (v := 119) F dX3_act_113 rfl ?_
            refine z_icmp_ne 132 F dX3_act_115 (by decide) (fun c9 => ?_) (fun c9 => ?_)
            · have h := h.1 c9
              exact hret vg _ _ h dX3_act_132
            · have h := h.2 c9
              refine z_iload_n F dX3_act_118 rfl 4 rfl ?_
              refine z_callNi (fun _ => w_Gr G a vg) F (mX6_isWall G p2 _ h) gX3_act_X6_isWall_n93 (List.mem_of_getElem? (i := 9) rfl) f0 f1 rfl hdX6_isWall ⟨rfl, rfl, Nat.le_of_ble_eq_true rfl, Nat.le_of_ble_eq_true rfl, Nat.le_of_ble_eq_true rfl, Nat.le_of_ble_eq_true rfl⟩ [] [0, 1, 2, 3, 4, 5, 6, 7] [0, 1, 2, 3, 4, 5, 6, 7] rfl rfl (by decide) (fun _ => rfl) rfl (Nat.le_of_ble_eq_true rfl) dX3_act_119 (fun r_3 u9 h => ?_)
              refine z_if_eq 132 F dX3_act_122 (by decide) (fun c9 => ?_) (fun c9 => ?_)
              · have h := h.1 c9
                exact hret vg _ _ h dX3_act_132
              · have h := h.2 c9
                refine z_aload_n F dX3_act_125 rfl 2 rfl ?_
                refine z_get (ci := 3) F iX3 0 rfl rfl 1 (by decide) f2 rfl rfl dX3_act_126 ?_
                refine z_iload_n F dX3_act_129 rfl 4 rfl ?_
                refine z_iconst (v := 0) F dX3_act_130 rfl ?_
                have h9 := h.1
                have h := h.2
                refine z_iast (w_Gr G a (Gr_s_keeps vg (upd (Gr_keeps vg) (p2).toNatClampNeg (0 : Int32)))) F 2 rfl h9 rfl dX3_act_131 ?_
                exact hret (Gr_s_keeps vg (upd (Gr_keeps vg) (p2).toNatClampNeg (0 : Int32))) _ _ h dX3_act_132
          · have h := h.2 c9
            refine z_aload_n F dX3_act_105 rfl 2 rfl ?_
            refine z_callVv (fun u9 => w_Gr G a u9) F (mX3_endDay G a vg _ h) gX3_act_X3_endDay rfl hdX3_endDay ⟨rfl, rfl, Nat.le_of_ble_eq_true rfl, Nat.le_of_ble_eq_true rfl, Nat.le_of_ble_eq_true rfl, Nat.le_of_ble_eq_true rfl⟩ 0 rfl rfl [0, 1, 2, 3, 4, 5, 6, 7] [] [0, 1, 2, 3, 4, 5, 6, 7] rfl rfl (by decide) (fun _ => rfl) rfl (Nat.le_of_ble_eq_true rfl) dX3_act_106 (fun vg_4 h => ?_)
            refine z_goto 132 F dX3_act_109 (by decide) ?_
            exact hret vg_4 _ _ h dX3_act_132
        · have h := h.2 c9
          refine z_aload_n F dX3_act_80 rfl 2 rfl ?_
          refine z_aload_n F dX3_act_81 rfl 2 rfl ?_
          refine z_get (ci := 3) F iX3 0 rfl rfl 12 (by decide) f3 rfl rfl dX3_act_82 ?_
          refine z_if_ne 92 F dX3_act_85 (by decide) (fun c9 => ?_) (fun c9 => ?_)
          · have h := h.1 c9
            refine z_iconst (v := 0) F dX3_act_92 rfl ?_
            refine z_put (ci := 3) (ty := .boolean) (w_Gr G a (Gr_s_snow vg (0 : Int32))) F iX3 tyX3 tyX3_ok nmX3 0 rfl rfl 12 (by decide) f3 rfl rfl rfl (by decide) (by decide) (Nat.le_of_ble_eq_true rfl) rfl dX3_act_93 ?_
            refine z_goto 132 F dX3_act_96 (by decide) ?_
            exact hret (Gr_s_snow vg (0 : Int32)) _ _ h dX3_act_132
          · have h := h.2 c9
            refine z_iconst (v := 1) F dX3_act_88 rfl ?_
            refine z_goto 93 F dX3_act_89 (by decide) ?_
            refine z_put (ci := 3) (ty := .boolean) (w_Gr G a (Gr_s_snow vg (1 : Int32))) F iX3 tyX3 tyX3_ok nmX3 0 rfl rfl 12 (by decide) f3 rfl rfl rfl (by decide) (by decide) (Nat.le_of_ble_eq_true rfl) rfl dX3_act_93 ?_
            refine z_goto 132 F dX3_act_96 (by decide) ?_
            exact hret (Gr_s_snow vg (1 : Int32)) _ _ h dX3_act_132
      · have h := h.2 c9
        refine z_aload_n F dX3_act_55 rfl 2 rfl ?_
        refine z_aload_n F dX3_act_56 rfl 2 rfl ?_
        refine z_get (ci := 3) F iX3 0 rfl rfl 11 (by decide) f4 rfl rfl dX3_act_57 ?_
        refine z_if_ne 67 F dX3_act_60 (by decide) (fun c9 => ?_) (fun c9 => ?_)
        · have h := h.1 c9
          refine z_iconst (v := 0) F dX3_act_67 rfl ?_
          refine z_put (ci := 3) (ty := .boolean) (w_Gr G a (Gr_s_fog vg (0 : Int32))) F iX3 tyX3 tyX3_ok nmX3 0 rfl rfl 11 (by decide) f4 rfl rfl rfl (by decide) (by decide) (Nat.le_of_ble_eq_true rfl) rfl dX3_act_68 ?_
          refine z_goto 132 F dX3_act_71 (by decide) ?_
          exact hret (Gr_s_fog vg (0 : Int32)) _ _ h dX3_act_132
        · have h := h.2 c9
          refine z_iconst (v := 1) F dX3_act_63 rfl ?_
          refine z_goto 68 F dX3_act_64 (by decide) ?_
          refine z_put (ci := 3) (ty := .boolean) (w_Gr G a (Gr_s_fog vg (1 : Int32))) F iX3 tyX3 tyX3_ok nmX3 0 rfl rfl 11 (by decide) f4 rfl rfl rfl (by decide) (by decide) (Nat.le_of_ble_eq_true rfl) rfl dX3_act_68 ?_
          refine z_goto 132 F dX3_act_71 (by decide) ?_
          exact hret (Gr_s_fog vg (1 : Int32)) _ _ h dX3_act_132
    · have h := h.2 c9
      refine z_aload_n F dX3_act_40 rfl 2 rfl ?_
      refine z_iload F dX3_act_41 0 rfl ?_
      refine z_callVv (fun u9 => w_Gr G a u9) F (mX3_wear G a vg r_2 _ h) gX3_act_X3_wear rfl hdX3_wear ⟨rfl, rfl, Nat.le_of_ble_eq_true rfl, Nat.le_of_ble_eq_true rfl, Nat.le_of_ble_eq_true rfl, Nat.le_of_ble_eq_true rfl⟩ 0 rfl rfl [0, 1, 2, 3, 4, 5, 6, 7] [] [0, 1, 2, 3, 4, 5, 6, 7] rfl rfl (by decide) (fun _ => rfl) rfl (Nat.le_of_ble_eq_true rfl) dX3_act_43 (fun vg_5 h => ?_)
      refine z_goto 132 F dX3_act_46 (by decide) ?_
      exact hret vg_5 _ _ h dX3_act_132
  · have h := h.2 c9
    refine z_aload_n F dX3_act_17 rfl 2 rfl ?_
    refine z_get (ci := 3) F iX3 0 rfl rfl 4 (by decide) f5 rfl rfl dX3_act_18 ?_
    refine z_iload_n F dX3_act_21 rfl 1 rfl ?_
    refine z_dup2 F dX3_act_22 rfl rfl ?_
    have h9 := h.1
    have h := h.2
    refine z_iald F 5 rfl h9 dX3_act_23 ?_
    refine z_bipush (v := 10) F dX3_act_24 rfl ?_
    refine z_iload_n F dX3_act_26 rfl 4 rfl ?_
    refine z_imul F dX3_act_27 ?_
    refine z_iadd F dX3_act_28 ?_
    have h9 := h.1
    have h := h.2
    refine z_iast (w_Gr G a (Gr_s_today vg (upd (Gr_today vg) (r_1).toNatClampNeg (((Gr_today vg) (r_1).toNatClampNeg) + ((10 : Int32) * p2))))) F 5 rfl h9 rfl dX3_act_29 ?_
    refine z_goto 132 F dX3_act_30 (by decide) ?_
    exact hret (Gr_s_today vg (upd (Gr_today vg) (r_1).toNatClampNeg (((Gr_today vg) (r_1).toNatClampNeg) + ((10 : Int32) * p2)))) _ _ h dX3_act_132
abbrev rmX3_worthOfSet : Room := { frames := 1, cells := 0, slots := 0, locals := 22 }
set_option maxRecDepth 100000 in
set_option maxHeartbeats 4000000 in
theorem mX3_worthOfSet (G : ZG) (a : Nat → Nat) (vg : Gr) (p1 : Int32) (p2 : Int32) (Q : Int32 → Gr → Prop) (h : wpX3_worthOfSet vg p1 p2 Q) : ZMi G yX3_worthOfSet wsX3_worthOfSet rmX3_worthOfSet [.ref (a 0), .int p1, .int p2] (w_Gr G a vg) (fun vg : Gr => w_Gr G a vg) (Q) := by
  refine z_ofi (cc := cX3_worthOfSet) (N := 5) (lv := [(0, .ref (a 0)), (1, .int p1), (2, .int p2)]) (by decide) rfl (Nat.le_of_ble_eq_true rfl) rfl (fun E F hret => ?_)
  have F : ZF E 5 cX3_worthOfSet RX3 wsX3_worthOfSet rmX3_worthOfSet G := F
  have f0 : ZW E (.initialized RX6) := F.at 2 rfl
  have f1 : ZW E (.static yX6_has) := F.at 1 rfl
  have t31 : ∀ (K5 : Gr → Int32 → Int32 → Int32 → Int32 → Prop) (ih5 : ∀ (vg : Gr) (x1 : Int32) (x2 : Int32) (x3 : Int32) (x4 : Int32), K5 vg x1 x2 x3 x4 → Z E 5 0 0 (w_Gr G a vg) [(0, .ref (a 0)), (1, .int x1), (2, .int x2), (3, .int x3), (4, .int x4)] 5 []) (vg : Gr) (x1 : Int32) (x2 : Int32) (x3 : Int32) (x4 : Int32), wpX3_worthOfSet_B31 Q K5 vg x1 x2 x3 x4 → Z E 5 0 0 (w_Gr G a vg) [(0, .ref (a 0)), (1, .int x1), (2, .int x2), (3, .int x3), (4, .int x4)] 31 [] := by
    intro K5 ih5 vg x1 x2 x3 x4 h
    unfold wpX3_worthOfSet_B31 at h
    obtain ⟨x4_5, e9⟩ : ∃ z : Int32, z = x4 + 1 := ⟨_, rfl⟩
    have h := h x4_5 e9
    refine z_iinc (v := x4_5) [(4, .int x4_5), (0, .ref (a 0)), (1, .int x1), (2, .int x2), (3, .int x3)] F dX3_worthOfSet_31 4 rfl (by rw [e9]; rfl) (by decide) rfl ?_
    refine z_goto 5 F dX3_worthOfSet_34 (by decide) ?_
    exact z_lv [1, 2, 3, 4, 0] rfl (ih5 vg x1 x2 x3 x4_5 h)
  have t5 : ∀ (n : Nat) (vg : Gr) (x1 : Int32) (x2 : Int32) (x3 : Int32) (x4 : Int32), wpX3_worthOfSet_L5 Q n vg x1 x2 x3 x4 → Z E 5 0 0 (w_Gr G a vg) [(0, .ref (a 0)), (1, .int x1), (2, .int x2), (3, .int x3), (4, .int x4)] 5 [] := by
    intro n
    induction n with
    | zero => intro vg x1 x2 x3 x4 h; exact h.elim
    | succ n ihQ =>
      have ih5 : ∀ (vg : Gr) (x1 : Int32) (x2 : Int32) (x3 : Int32) (x4 : Int32), wpX3_worthOfSet_L5 Q n vg x1 x2 x3 x4 → Z E 5 0 0 (w_Gr G a vg) [(0, .ref (a 0)), (1, .int x1), (2, .int x2), (3, .int x3), (4, .int x4)] 5 [] := ihQ
      intro vg x1 x2 x3 x4 h
      have h : wpX3_worthOfSet_H5 Q (wpX3_worthOfSet_L5 Q n) vg x1 x2 x3 x4 := h
      generalize wpX3_worthOfSet_L5 Q n = K5 at h ih5
      clear ihQ
      unfold wpX3_worthOfSet_H5 at h
      refine z_iload F dX3_worthOfSet_5 4 rfl ?_
      refine z_bipush (v := 6) F dX3_worthOfSet_7 rfl ?_
      refine z_icmp_ge 37 F dX3_worthOfSet_9 (by decide) (fun c9 => ?_) (fun c9 => ?_)
      · have h := h.1 c9
        refine z_iload_n F dX3_worthOfSet_37 rfl 3 rfl ?_
        exact hret x3 vg _ _ h dX3_worthOfSet_38
      · have h := h.2 c9
        refine z_iload_n F dX3_worthOfSet_12 rfl 1 rfl ?_
        refine z_iload F dX3_worthOfSet_13 4 rfl ?_
        refine z_callNi (fun _ => w_Gr G a vg) F (mX6_has G x1 x4 _ h) gX3_worthOfSet_X6_has_n59 (List.mem_of_getElem? (i := 8) rfl) f0 f1 rfl hdX6_has ⟨rfl, rfl, Nat.le_of_ble_eq_true rfl, Nat.le_of_ble_eq_true rfl, Nat.le_of_ble_eq_true rfl, Nat.le_of_ble_eq_true rfl⟩ [] [0, 1, 2, 3, 4, 5, 6, 7] [0, 1, 2, 3, 4, 5, 6, 7] rfl rfl (by decide) (fun _ => rfl) rfl (Nat.le_of_ble_eq_true rfl) dX3_worthOfSet_15 (fun r_1 u9 h => ?_)
        refine z_if_eq 31 F dX3_worthOfSet_18 (by decide) (fun c9 => ?_) (fun c9 => ?_)
        · have h := h.1 c9
          exact z_lv [0, 1, 2, 3, 4] rfl (t31 K5 ih5 vg x1 x2 x3 x4 h)
        · have h := h.2 c9
          refine z_iload_n F dX3_worthOfSet_21 rfl 3 rfl ?_
          refine z_aload_n F dX3_worthOfSet_22 rfl 0 rfl ?_
          refine z_iload F dX3_worthOfSet_23 4 rfl ?_
          refine z_iload_n F dX3_worthOfSet_25 rfl 2 rfl ?_
          refine z_callVi (fun u9 => w_Gr G a u9) F (mX3_worth G a vg x4 x2 _ h) gX3_worthOfSet_X3_worth rfl hdX3_worth ⟨rfl, rfl, Nat.le_of_ble_eq_true rfl, Nat.le_of_ble_eq_true rfl, Nat.le_of_ble_eq_true rfl, Nat.le_of_ble_eq_true rfl⟩ 0 rfl rfl [0, 1, 2, 3, 4, 5, 6, 7] [] [0, 1, 2, 3, 4, 5, 6, 7] rfl rfl (by decide) (fun _ => rfl) rfl (Nat.le_of_ble_eq_true rfl) dX3_worthOfSet_26 (fun r_2 vg_3 h => ?_)
          refine z_iadd F dX3_worthOfSet_29 ?_
          refine z_topi (fun x3_4 e9 => ?_)
          have h := h x3_4 e9
          refine z_istore_n [(3, .int x3_4), (0, .ref (a 0)), (1, .int x1), (2, .int x2), (4, .int x4)] F dX3_worthOfSet_30 rfl (by decide) rfl ?_
          exact z_lv [1, 2, 3, 0, 4] rfl (t31 K5 ih5 vg_3 x1 x2 x3_4 x4 h)
  unfold wpX3_worthOfSet at h
  refine z_iconst (v := 0) F dX3_worthOfSet_0 rfl ?_
  refine z_istore_n [(3, .int (0 : Int32)), (0, .ref (a 0)), (1, .int p1), (2, .int p2)] F dX3_worthOfSet_1 rfl (by decide) rfl ?_
  refine z_iconst (v := 0) F dX3_worthOfSet_2 rfl ?_
  refine z_istore [(4, .int (0 : Int32)), (3, .int (0 : Int32)), (0, .ref (a 0)), (1, .int p1), (2, .int p2)] F dX3_worthOfSet_3 (by decide) rfl ?_
  obtain ⟨n9, h⟩ := h
  exact z_lv [2, 3, 4, 1, 0] rfl (t5 n9 vg p1 p2 (0 : Int32) (0 : Int32) h)
abbrev rmX3_mostSeen : Room := { frames := 2, cells := 0, slots := 0, locals := 46 }
set_option maxRecDepth 100000 in
set_option maxHeartbeats 4000000 in
theorem mX3_mostSeen (G : ZG) (a : Nat → Nat) (vg : Gr) (Q : Int32 → Gr → Prop) (h : wpX3_mostSeen vg Q) : ZMi G yX3_mostSeen wsX3_mostSeen rmX3_mostSeen [.ref (a 0)] (w_Gr G a vg) (fun vg : Gr => w_Gr G a vg) (Q) := by
  refine z_ofi (cc := cX3_mostSeen) (N := 1) (lv := [(0, .ref (a 0))]) (by decide) rfl (Nat.le_of_ble_eq_true rfl) rfl (fun E F hret => ?_)
  have F : ZF E 1 cX3_mostSeen RX3 wsX3_mostSeen rmX3_mostSeen G := F
  have f0 : ZW E (.methodLink RX3 77 Lib.Math.max.name) := F.at 1 rfl
  have f1 : ZW E (.static Lib.Math.max.name) := F.at 2 rfl
  have f2 : ZW E (.initialized "java/lang/Math") := F.at 3 rfl
  have f3 : ZW E (.code Lib.Math.max.name Lib.Math.max.code 2 (some .int)) := F.at 4 rfl
  unfold wpX3_mostSeen at h
  refine z_aload_n F dX3_mostSeen_0 rfl 0 rfl ?_
  refine z_iconst (v := 0) F dX3_mostSeen_1 rfl ?_
  refine z_iconst (v := 0) F dX3_mostSeen_2 rfl ?_
  refine z_callVi (fun u9 => w_Gr G a u9) F (mX3_seenToday G a vg (0 : Int32) (0 : Int32) _ h) gX3_mostSeen_X3_seenToday rfl hdX3_seenToday ⟨rfl, rfl, Nat.le_of_ble_eq_true rfl, Nat.le_of_ble_eq_true rfl, Nat.le_of_ble_eq_true rfl, Nat.le_of_ble_eq_true rfl⟩ 0 rfl rfl [0, 1, 2, 3, 4, 5, 6, 7] [] [0, 1, 2, 3, 4, 5, 6, 7] rfl rfl (by decide) (fun _ => rfl) rfl (Nat.le_of_ble_eq_true rfl) dX3_mostSeen_3 (fun r_1 vg_2 h => ?_)
  refine z_aload_n F dX3_mostSeen_6 rfl 0 rfl ?_
  refine z_iconst (v := 1) F dX3_mostSeen_7 rfl ?_
  refine z_iconst (v := 0) F dX3_mostSeen_8 rfl ?_
  refine z_callVi (fun u9 => w_Gr G a u9) F (mX3_seenToday G a vg_2 (1 : Int32) (0 : Int32) _ h) gX3_mostSeen_X3_seenToday rfl hdX3_seenToday ⟨rfl, rfl, Nat.le_of_ble_eq_true rfl, Nat.le_of_ble_eq_true rfl, Nat.le_of_ble_eq_true rfl, Nat.le_of_ble_eq_true rfl⟩ 0 rfl rfl [0, 1, 2, 3, 4, 5, 6, 7] [] [0, 1, 2, 3, 4, 5, 6, 7] rfl rfl (by decide) (fun _ => rfl) rfl (Nat.le_of_ble_eq_true rfl) dX3_mostSeen_9 (fun r_3 vg_4 h => ?_)
  refine z_aload_n F dX3_mostSeen_12 rfl 0 rfl ?_
  refine z_iconst (v := 2) F dX3_mostSeen_13 rfl ?_
  refine z_iconst (v := 0) F dX3_mostSeen_14 rfl ?_
  refine z_callVi (fun u9 => w_Gr G a u9) F (mX3_seenToday G a vg_4 (2 : Int32) (0 : Int32) _ h) gX3_mostSeen_X3_seenToday rfl hdX3_seenToday ⟨rfl, rfl, Nat.le_of_ble_eq_true rfl, Nat.le_of_ble_eq_true rfl, Nat.le_of_ble_eq_true rfl, Nat.le_of_ble_eq_true rfl⟩ 0 rfl rfl [0, 1, 2, 3, 4, 5, 6, 7] [] [0, 1, 2, 3, 4, 5, 6, 7] rfl rfl (by decide) (fun _ => rfl) rfl (Nat.le_of_ble_eq_true rfl) dX3_mostSeen_15 (fun r_5 vg_6 h => ?_)
  refine z_max F f0 f1 f2 f3 ⟨Nat.le_of_ble_eq_true rfl, Nat.le_of_ble_eq_true rfl, Nat.le_of_ble_eq_true rfl, Nat.le_of_ble_eq_true rfl⟩ dX3_mostSeen_18 ?_
  refine z_max F f0 f1 f2 f3 ⟨Nat.le_of_ble_eq_true rfl, Nat.le_of_ble_eq_true rfl, Nat.le_of_ble_eq_true rfl, Nat.le_of_ble_eq_true rfl⟩ dX3_mostSeen_21 ?_
  exact hret (if r_1 < (if r_3 < r_5 then r_5 else r_3) then (if r_3 < r_5 then r_5 else r_3) else r_1) vg_6 _ _ h dX3_mostSeen_24
abbrev rmX3_draw : Room := { frames := 0, cells := 0, slots := 0, locals := 0 }
set_option maxRecDepth 100000 in
set_option maxHeartbeats 4000000 in
theorem mX3_draw (G : ZG) (a : Nat → Nat) (vg : Gr) (p1 : Int32) (Q : Gr → Prop) (h : wpX3_draw vg p1 Q) : ZMv G yX3_draw wsX3_draw rmX3_draw [.ref (a 0), .int p1] (w_Gr G a vg) (fun vg : Gr => w_Gr G a vg) (Q) := by
  refine z_ofv (cc := cX3_draw) (N := 2) (lv := [(0, .ref (a 0)), (1, .int p1)]) (by decide) rfl (Nat.le_of_ble_eq_true rfl) rfl (fun E F hret => ?_)
  have F : ZF E 2 cX3_draw RX3 wsX3_draw rmX3_draw G := F
  have f0 : ZW E (.fieldLink RX3 46 "ColourEcho$Gorge" "fog" "Z") := F.at 1 rfl
  have f1 : ZW E (.fieldLink RX3 50 "ColourEcho$Gorge" "snow" "Z") := F.at 2 rfl
  have f2 : ZW E (.fieldLink RX3 24 "ColourEcho$Gorge" "today" "[I") := F.at 3 rfl
  have iX3 : ∀ x ∈ u_ws RX3 TX3 13, x ∈ wsX3_draw := fun _ h => List.mem_cons_of_mem _ (List.mem_append_right _ h)
  have t29 : ∀ (vg : Gr) (x1 : Int32) (s1 : Int32), wpX3_draw_B29 Q vg x1 s1 → Z E 2 0 0 (w_Gr G a vg) [(0, .ref (a 0)), (1, .int x1)] 29 [.int s1, .ref (a 0)] := by
    intro vg x1 s1 h
    unfold wpX3_draw_B29 at h
    have h9 := h.1
    have h := h.2
    refine z_put (ci := 3) (ty := .boolean) (w_Gr G a (Gr_s_snow vg s1)) F iX3 tyX3 tyX3_ok nmX3 0 rfl rfl 12 (by decide) f1 rfl rfl rfl (zbz_n h9) (zbz_f h9) (Nat.le_of_ble_eq_true rfl) rfl dX3_draw_29 ?_
    refine z_aload_n F dX3_draw_32 rfl 0 rfl ?_
    refine z_get (ci := 3) F iX3 0 rfl rfl 4 (by decide) f2 rfl rfl dX3_draw_33 ?_
    refine z_iload_n F dX3_draw_36 rfl 1 rfl ?_
    refine z_iconst (v := 3) F dX3_draw_37 rfl ?_
    refine z_irem F dX3_draw_38 (by decide) ?_
    refine z_iload_n F dX3_draw_39 rfl 1 rfl ?_
    refine z_bipush (v := 7) F dX3_draw_40 rfl ?_
    refine z_idiv F dX3_draw_42 (by decide) ?_
    refine z_bipush (v := 100) F dX3_draw_43 rfl ?_
    refine z_irem F dX3_draw_45 (by decide) ?_
    have h9 := h.1
    have h := h.2
    refine z_iast (f := (Gr_today vg)) (w_Gr G a (Gr_s_today (Gr_s_snow vg s1) (upd (Gr_today vg) ((x1 - x1 / (3 : Int32) * (3 : Int32))).toNatClampNeg ((x1 / (7 : Int32)) - (x1 / (7 : Int32)) / (100 : Int32) * (100 : Int32))))) F 5 rfl h9 rfl dX3_draw_46 ?_
    exact hret (Gr_s_today (Gr_s_snow vg s1) (upd (Gr_today vg) ((x1 - x1 / (3 : Int32) * (3 : Int32))).toNatClampNeg ((x1 / (7 : Int32)) - (x1 / (7 : Int32)) / (100 : Int32) * (100 : Int32)))) _ _ h dX3_draw_47
  have t13 : ∀ (vg : Gr) (x1 : Int32) (s1 : Int32), wpX3_draw_B13 Q vg x1 s1 → Z E 2 0 0 (w_Gr G a vg) [(0, .ref (a 0)), (1, .int x1)] 13 [.int s1, .ref (a 0)] := by
    intro vg x1 s1 h
    unfold wpX3_draw_B13 at h
    have h9 := h.1
    have h := h.2
    refine z_put (ci := 3) (ty := .boolean) (w_Gr G a (Gr_s_fog vg s1)) F iX3 tyX3 tyX3_ok nmX3 0 rfl rfl 11 (by decide) f0 rfl rfl rfl (zbz_n h9) (zbz_f h9) (Nat.le_of_ble_eq_true rfl) rfl dX3_draw_13 ?_
    refine z_aload_n F dX3_draw_16 rfl 0 rfl ?_
    refine z_iload_n F dX3_draw_17 rfl 1 rfl ?_
    refine z_bipush (v := 31) F dX3_draw_18 rfl ?_
    refine z_irem F dX3_draw_20 (by decide) ?_
    refine z_if_ne 28 F dX3_draw_21 (by decide) (fun c9 => ?_) (fun c9 => ?_)
    · have h := h.1 c9
      refine z_iconst (v := 0) F dX3_draw_28 rfl ?_
      exact z_lv [0, 1] rfl (t29 (Gr_s_fog vg s1) x1 (0 : Int32) h)
    · have h := h.2 c9
      refine z_iconst (v := 1) F dX3_draw_24 rfl ?_
      refine z_goto 29 F dX3_draw_25 (by decide) ?_
      exact z_lv [0, 1] rfl (t29 (Gr_s_fog vg s1) x1 (1 : Int32) h)
  unfold wpX3_draw at h
  refine z_aload_n F dX3_draw_0 rfl 0 rfl ?_
  refine z_iload_n F dX3_draw_1 rfl 1 rfl ?_
  refine z_bipush (v := 7) F dX3_draw_2 rfl ?_
  refine z_irem F dX3_draw_4 (by decide) ?_
  refine z_if_ne 12 F dX3_draw_5 (by decide) (fun c9 => ?_) (fun c9 => ?_)
  · have h := h.1 c9
    refine z_iconst (v := 0) F dX3_draw_12 rfl ?_
    exact z_lv [0, 1] rfl (t13 vg p1 (0 : Int32) h)
  · have h := h.2 c9
    refine z_iconst (v := 1) F dX3_draw_8 rfl ?_
    refine z_goto 13 F dX3_draw_9 (by decide) ?_
    exact z_lv [0, 1] rfl (t13 vg p1 (1 : Int32) h)
abbrev rmX6_isAmount : Room := { frames := 1, cells := 0, slots := 0, locals := 22 }
set_option maxRecDepth 100000 in
set_option maxHeartbeats 4000000 in
theorem mX6_isAmount (G : ZG) (p0 : Int32) (Q : Int32 → Prop) (h : wpX6_isAmount p0 Q) : ZMi G yX6_isAmount wsX6_isAmount rmX6_isAmount [.int p0] ([]) (fun _ : Unit => []) (fun r _ => Q r) := by
  refine z_ofz (cc := cX6_isAmount) (N := 1) (lv := [(0, .int p0)]) (by decide) rfl (Nat.le_of_ble_eq_true rfl) rfl (fun E F hret => ?_)
  have F : ZF E 1 cX6_isAmount RX6 wsX6_isAmount rmX6_isAmount G := F
  skip
  unfold wpX6_isAmount at h
  refine z_iload_n F dX6_isAmount_0 rfl 0 rfl ?_
  refine z_iconst (v := 0) F dX6_isAmount_1 rfl ?_
  refine z_sipush (v := 999) F dX6_isAmount_2 rfl ?_
  refine z_callSi (fun _ => []) F (mX6_isWithin G p0 (0 : Int32) (999 : Int32) _ h) gX6_isAmount_X6_isWithin rfl hdX6_isWithin ⟨rfl, rfl, Nat.le_of_ble_eq_true rfl, Nat.le_of_ble_eq_true rfl, Nat.le_of_ble_eq_true rfl, Nat.le_of_ble_eq_true rfl⟩ [] [] [] rfl rfl (by decide) (fun _ => rfl) rfl (Nat.le_of_ble_eq_true rfl) dX6_isAmount_5 (fun r_1 u9 h => ?_)
  have h9 := h.1
  have h := h.2
  exact hret r_1 () _ _ h dX6_isAmount_8 (zbz_n h9)
abbrev rmX5_standsAlone : Room := { frames := 1, cells := 0, slots := 0, locals := 20 }
set_option maxRecDepth 100000 in
set_option maxHeartbeats 4000000 in
theorem mX5_standsAlone (G : ZG) (p0 : Int32) (Q : Int32 → Prop) (h : wpX5_standsAlone p0 Q) : ZMi G yX5_standsAlone wsX5_standsAlone rmX5_standsAlone [.int p0] ([]) (fun _ : Unit => []) (fun r _ => Q r) := by
  refine z_ofz (cc := cX5_standsAlone) (N := 1) (lv := [(0, .int p0)]) (by decide) rfl (Nat.le_of_ble_eq_true rfl) rfl (fun E F hret => ?_)
  have F : ZF E 1 cX5_standsAlone RX5 wsX5_standsAlone rmX5_standsAlone G := F
  skip
  unfold wpX5_standsAlone at h
  refine z_iload_n F dX5_standsAlone_0 rfl 0 rfl ?_
  refine z_callSi (fun _ => []) F (mX5_dressOf G p0 _ h) gX5_standsAlone_X5_dressOf rfl hdX5_dressOf ⟨rfl, rfl, Nat.le_of_ble_eq_true rfl, Nat.le_of_ble_eq_true rfl, Nat.le_of_ble_eq_true rfl, Nat.le_of_ble_eq_true rfl⟩ [] [] [] rfl rfl (by decide) (fun _ => rfl) rfl (Nat.le_of_ble_eq_true rfl) dX5_standsAlone_1 (fun r_1 u9 h => ?_)
  refine z_bipush (v := -6) F dX5_standsAlone_4 rfl ?_
  refine z_icmp_ne 27 F dX5_standsAlone_6 (by decide) (fun c9 => ?_) (fun c9 => ?_)
  · have h := h.1 c9
    refine z_iconst (v := 1) F dX5_standsAlone_27 rfl ?_
    refine z_goto 32 F dX5_standsAlone_28 (by decide) ?_
    exact hret (1 : Int32) () _ _ h dX5_standsAlone_32 (by decide)
  · have h := h.2 c9
    refine z_iload_n F dX5_standsAlone_9 rfl 0 rfl ?_
    refine z_bipush (v := 102) F dX5_standsAlone_10 rfl ?_
    refine z_icmp_eq 27 F dX5_standsAlone_12 (by decide) (fun c9 => ?_) (fun c9 => ?_)
    · have h := h.1 c9
      refine z_iconst (v := 1) F dX5_standsAlone_27 rfl ?_
      refine z_goto 32 F dX5_standsAlone_28 (by decide) ?_
      exact hret (1 : Int32) () _ _ h dX5_standsAlone_32 (by decide)
    · have h := h.2 c9
      refine z_iload_n F dX5_standsAlone_15 rfl 0 rfl ?_
      refine z_bipush (v := 115) F dX5_standsAlone_16 rfl ?_
      refine z_icmp_eq 27 F dX5_standsAlone_18 (by decide) (fun c9 => ?_) (fun c9 => ?_)
      · have h := h.1 c9
        refine z_iconst (v := 1) F dX5_standsAlone_27 rfl ?_
        refine z_goto 32 F dX5_standsAlone_28 (by decide) ?_
        exact hret (1 : Int32) () _ _ h dX5_standsAlone_32 (by decide)
      · have h := h.2 c9
        refine z_iload_n F dX5_standsAlone_21 rfl 0 rfl ?_
        refine z_bipush (v := 46) F dX5_standsAlone_22 rfl ?_
        refine z_icmp_ne 31 F dX5_standsAlone_24 (by decide) (fun c9 => ?_) (fun c9 => ?_)
        · have h := h.1 c9
          refine z_iconst (v := 0) F dX5_standsAlone_31 rfl ?_
          exact hret (0 : Int32) () _ _ h dX5_standsAlone_32 (by decide)
        · have h := h.2 c9
          refine z_iconst (v := 1) F dX5_standsAlone_27 rfl ?_
          refine z_goto 32 F dX5_standsAlone_28 (by decide) ?_
          exact hret (1 : Int32) () _ _ h dX5_standsAlone_32 (by decide)
abbrev rmX5_isDigitOf : Room := { frames := 1, cells := 0, slots := 0, locals := 22 }
set_option maxRecDepth 100000 in
set_option maxHeartbeats 4000000 in
theorem mX5_isDigitOf (G : ZG) (p0 : Int32) (p1 : Int32) (Q : Int32 → Prop) (h : wpX5_isDigitOf p0 p1 Q) : ZMi G yX5_isDigitOf wsX5_isDigitOf rmX5_isDigitOf [.int p0, .int p1] ([]) (fun _ : Unit => []) (fun r _ => Q r) := by
  refine z_ofz (cc := cX5_isDigitOf) (N := 2) (lv := [(0, .int p0), (1, .int p1)]) (by decide) rfl (Nat.le_of_ble_eq_true rfl) rfl (fun E F hret => ?_)
  have F : ZF E 2 cX5_isDigitOf RX5 wsX5_isDigitOf rmX5_isDigitOf G := F
  have f0 : ZW E (.initialized RX6) := F.at 2 rfl
  have f1 : ZW E (.static yX6_isWithin) := F.at 1 rfl
  skip
  unfold wpX5_isDigitOf at h
  refine z_iload_n F dX5_isDigitOf_0 rfl 0 rfl ?_
  refine z_bipush (v := 119) F dX5_isDigitOf_1 rfl ?_
  refine z_icmp_ne 17 F dX5_isDigitOf_3 (by decide) (fun c9 => ?_) (fun c9 => ?_)
  · have h := h.1 c9
    refine z_iload_n F dX5_isDigitOf_17 rfl 1 rfl ?_
    refine z_bipush (v := 49) F dX5_isDigitOf_18 rfl ?_
    refine z_bipush (v := 57) F dX5_isDigitOf_20 rfl ?_
    refine z_callNi (fun _ => []) F (mX6_isWithin G p1 (49 : Int32) (57 : Int32) _ h) gX5_isDigitOf_X6_isWithin_n26 (List.mem_of_getElem? (i := 7) rfl) f0 f1 rfl hdX6_isWithin ⟨rfl, rfl, Nat.le_of_ble_eq_true rfl, Nat.le_of_ble_eq_true rfl, Nat.le_of_ble_eq_true rfl, Nat.le_of_ble_eq_true rfl⟩ [] [] [] rfl rfl (by decide) (fun _ => rfl) rfl (Nat.le_of_ble_eq_true rfl) dX5_isDigitOf_22 (fun r_1 u9 h => ?_)
    have h9 := h.1
    have h := h.2
    exact hret r_1 () _ _ h dX5_isDigitOf_25 (zbz_n h9)
  · have h := h.2 c9
    refine z_iload_n F dX5_isDigitOf_6 rfl 1 rfl ?_
    refine z_bipush (v := 48) F dX5_isDigitOf_7 rfl ?_
    refine z_bipush (v := 51) F dX5_isDigitOf_9 rfl ?_
    refine z_callNi (fun _ => []) F (mX6_isWithin G p1 (48 : Int32) (51 : Int32) _ h) gX5_isDigitOf_X6_isWithin_n26 (List.mem_of_getElem? (i := 7) rfl) f0 f1 rfl hdX6_isWithin ⟨rfl, rfl, Nat.le_of_ble_eq_true rfl, Nat.le_of_ble_eq_true rfl, Nat.le_of_ble_eq_true rfl, Nat.le_of_ble_eq_true rfl⟩ [] [] [] rfl rfl (by decide) (fun _ => rfl) rfl (Nat.le_of_ble_eq_true rfl) dX5_isDigitOf_11 (fun r_2 u9 h => ?_)
    refine z_goto 25 F dX5_isDigitOf_14 (by decide) ?_
    have h9 := h.1
    have h := h.2
    exact hret r_2 () _ _ h dX5_isDigitOf_25 (zbz_n h9)
abbrev rmX5_faultPlace : Room := { frames := 2, cells := 0, slots := 0, locals := 43 }
set_option maxRecDepth 100000 in
set_option maxHeartbeats 4000000 in
theorem mX5_faultPlace (G : ZG) (a : Nat → Nat) (vp : Pd) (Q : Int32 → Pd → Prop) (h : wpX5_faultPlace vp Q) : ZMi G yX5_faultPlace wsX5_faultPlace rmX5_faultPlace [.ref (a 0)] (w_Pd G a vp) (fun vp : Pd => w_Pd G a vp) (Q) := by
  refine z_ofi (cc := cX5_faultPlace) (N := 3) (lv := [(0, .ref (a 0))]) (by decide) rfl (Nat.le_of_ble_eq_true rfl) rfl (fun E F hret => ?_)
  have F : ZF E 3 cX5_faultPlace RX5 wsX5_faultPlace rmX5_faultPlace G := F
  have f0 : ZW E (.fieldLink RX5 15 "ColourEcho$Pad" "count" "I") := F.at 1 rfl
  have f1 : ZW E (.fieldLink RX5 9 "ColourEcho$Pad" "signs" "[I") := F.at 2 rfl
  have iX5 : ∀ x ∈ u_ws RX5 TX5 2, x ∈ wsX5_faultPlace := fun _ h => List.mem_cons_of_mem _ (List.mem_append_right _ h)
  have t64 : ∀ (K2 : Pd → Int32 → Prop) (ih2 : ∀ (vp : Pd) (x1 : Int32), K2 vp x1 → Z E 3 0 0 (w_Pd G a vp) [(0, .ref (a 0)), (1, .int x1)] 2 []) (vp : Pd) (x1 : Int32), wpX5_faultPlace_B64 Q K2 vp x1 → Z E 3 0 0 (w_Pd G a vp) [(0, .ref (a 0)), (1, .int x1)] 64 [] := by
    intro K2 ih2 vp x1 h
    unfold wpX5_faultPlace_B64 at h
    obtain ⟨x1_6, e9⟩ : ∃ z : Int32, z = x1 + 1 := ⟨_, rfl⟩
    have h := h x1_6 e9
    refine z_iinc (v := x1_6) [(1, .int x1_6), (0, .ref (a 0))] F dX5_faultPlace_64 1 rfl (by rw [e9]; rfl) (by decide) rfl ?_
    refine z_goto 2 F dX5_faultPlace_67 (by decide) ?_
    exact z_lv [1, 0] rfl (ih2 vp x1_6 h)
  have t2 : ∀ (n : Nat) (vp : Pd) (x1 : Int32), wpX5_faultPlace_L2 Q n vp x1 → Z E 3 0 0 (w_Pd G a vp) [(0, .ref (a 0)), (1, .int x1)] 2 [] := by
    intro n
    induction n with
    | zero => intro vp x1 h; exact h.elim
    | succ n ihQ =>
      have ih2 : ∀ (vp : Pd) (x1 : Int32), wpX5_faultPlace_L2 Q n vp x1 → Z E 3 0 0 (w_Pd G a vp) [(0, .ref (a 0)), (1, .int x1)] 2 [] := ihQ
      intro vp x1 h
      have h : wpX5_faultPlace_H2 Q (wpX5_faultPlace_L2 Q n) vp x1 := h
      generalize wpX5_faultPlace_L2 Q n = K2 at h ih2
      clear ihQ
      unfold wpX5_faultPlace_H2 at h
      refine z_iload_n F dX5_faultPlace_2 rfl 1 rfl ?_
      refine z_aload_n F dX5_faultPlace_3 rfl 0 rfl ?_
      refine z_get (ci := 5) F iX5 0 rfl rfl 1 (by decide) f0 rfl rfl dX5_faultPlace_4 ?_
      refine z_icmp_ge 70 F dX5_faultPlace_7 (by decide) (fun c9 => ?_) (fun c9 => ?_)
      · have h := h.1 c9
        refine z_bipush (v := -6) F dX5_faultPlace_70 rfl ?_
        exact hret (-6 : Int32) vp _ _ h dX5_faultPlace_72
      · have h := h.2 c9
        refine z_aload_n F dX5_faultPlace_10 rfl 0 rfl ?_
        refine z_get (ci := 5) F iX5 0 rfl rfl 0 (by decide) f1 rfl rfl dX5_faultPlace_11 ?_
        refine z_iload_n F dX5_faultPlace_14 rfl 1 rfl ?_
        have h9 := h.1
        have h := h.2
        refine z_iald F 1 rfl h9 dX5_faultPlace_15 ?_
        refine z_topi (fun x2_1 e9 => ?_)
        have h := h x2_1 e9
        refine z_istore_n [(2, .int x2_1), (0, .ref (a 0)), (1, .int x1)] F dX5_faultPlace_16 rfl (by decide) rfl ?_
        refine z_iload_n F dX5_faultPlace_17 rfl 0 rfl ?_
        refine z_callSi (fun _ => w_Pd G a vp) F (mX5_takesDigit G x2_1 _ h) gX5_faultPlace_X5_takesDigit rfl hdX5_takesDigit ⟨rfl, rfl, Nat.le_of_ble_eq_true rfl, Nat.le_of_ble_eq_true rfl, Nat.le_of_ble_eq_true rfl, Nat.le_of_ble_eq_true rfl⟩ [] [0, 1] [0, 1] rfl rfl (by decide) (fun _ => rfl) rfl (Nat.le_of_ble_eq_true rfl) dX5_faultPlace_18 (fun r_2 u9 h => ?_)
        refine z_if_eq 55 F dX5_faultPlace_21 (by decide) (fun c9 => ?_) (fun c9 => ?_)
        · have h := h.1 c9
          refine z_iload_n F dX5_faultPlace_55 rfl 0 rfl ?_
          refine z_callSi (fun _ => w_Pd G a vp) F (mX5_standsAlone G x2_1 _ h) gX5_faultPlace_X5_standsAlone rfl hdX5_standsAlone ⟨rfl, rfl, Nat.le_of_ble_eq_true rfl, Nat.le_of_ble_eq_true rfl, Nat.le_of_ble_eq_true rfl, Nat.le_of_ble_eq_true rfl⟩ [] [0, 1] [0, 1] rfl rfl (by decide) (fun _ => rfl) rfl (Nat.le_of_ble_eq_true rfl) dX5_faultPlace_56 (fun r_3 u9 h => ?_)
          refine z_if_ne 64 F dX5_faultPlace_59 (by decide) (fun c9 => ?_) (fun c9 => ?_)
          · have h := h.1 c9
            exact z_lv [1, 2] rfl (t64 K2 ih2 vp x1 h)
          · have h := h.2 c9
            refine z_iload_n F dX5_faultPlace_62 rfl 2 rfl ?_
            exact hret x1 vp _ _ h dX5_faultPlace_63
        · have h := h.2 c9
          obtain ⟨x1_4, e9⟩ : ∃ z : Int32, z = x1 + 1 := ⟨_, rfl⟩
          have h := h x1_4 e9
          refine z_iinc (v := x1_4) [(1, .int x1_4), (2, .int x2_1), (0, .ref (a 0))] F dX5_faultPlace_24 2 rfl (by rw [e9]; rfl) (by decide) rfl ?_
          refine z_iload_n F dX5_faultPlace_27 rfl 0 rfl ?_
          refine z_aload_n F dX5_faultPlace_28 rfl 2 rfl ?_
          refine z_get (ci := 5) F iX5 0 rfl rfl 1 (by decide) f0 rfl rfl dX5_faultPlace_29 ?_
          refine z_icmp_lt 40 F dX5_faultPlace_32 (by decide) (fun c9 => ?_) (fun c9 => ?_)
          · have h := h.1 c9
            refine z_iload_n F dX5_faultPlace_40 rfl 1 rfl ?_
            refine z_aload_n F dX5_faultPlace_41 rfl 2 rfl ?_
            refine z_get (ci := 5) F iX5 0 rfl rfl 0 (by decide) f1 rfl rfl dX5_faultPlace_42 ?_
            refine z_iload_n F dX5_faultPlace_45 rfl 0 rfl ?_
            have h9 := h.1
            have h := h.2
            refine z_iald F 1 rfl h9 dX5_faultPlace_46 ?_
            refine z_callSi (fun _ => w_Pd G a vp) F (mX5_isDigitOf G x2_1 ((Pd_signs vp) (x1_4).toNatClampNeg) _ h) gX5_faultPlace_X5_isDigitOf rfl hdX5_isDigitOf ⟨rfl, rfl, Nat.le_of_ble_eq_true rfl, Nat.le_of_ble_eq_true rfl, Nat.le_of_ble_eq_true rfl, Nat.le_of_ble_eq_true rfl⟩ [] [0, 1] [0, 1] rfl rfl (by decide) (fun _ => rfl) rfl (Nat.le_of_ble_eq_true rfl) dX5_faultPlace_47 (fun r_5 u9 h => ?_)
            refine z_if_ne 64 F dX5_faultPlace_50 (by decide) (fun c9 => ?_) (fun c9 => ?_)
            · have h := h.1 c9
              exact z_lv [2, 0] rfl (t64 K2 ih2 vp x1_4 h)
            · have h := h.2 c9
              refine z_iload_n F dX5_faultPlace_53 rfl 0 rfl ?_
              exact hret x1_4 vp _ _ h dX5_faultPlace_54
          · have h := h.2 c9
            refine z_aload_n F dX5_faultPlace_35 rfl 2 rfl ?_
            refine z_get (ci := 5) F iX5 0 rfl rfl 1 (by decide) f0 rfl rfl dX5_faultPlace_36 ?_
            exact hret (Pd_count vp) vp _ _ h dX5_faultPlace_39
  unfold wpX5_faultPlace at h
  refine z_iconst (v := 0) F dX5_faultPlace_0 rfl ?_
  refine z_istore_n [(1, .int (0 : Int32)), (0, .ref (a 0))] F dX5_faultPlace_1 rfl (by decide) rfl ?_
  obtain ⟨n9, h⟩ := h
  exact z_lv [1, 0] rfl (t2 n9 vp (0 : Int32) h)
abbrev rmX6_isDress : Room := { frames := 1, cells := 0, slots := 0, locals := 22 }
set_option maxRecDepth 100000 in
set_option maxHeartbeats 4000000 in
theorem mX6_isDress (G : ZG) (p0 : Int32) (Q : Int32 → Prop) (h : wpX6_isDress p0 Q) : ZMi G yX6_isDress wsX6_isDress rmX6_isDress [.int p0] ([]) (fun _ : Unit => []) (fun r _ => Q r) := by
  refine z_ofz (cc := cX6_isDress) (N := 1) (lv := [(0, .int p0)]) (by decide) rfl (Nat.le_of_ble_eq_true rfl) rfl (fun E F hret => ?_)
  have F : ZF E 1 cX6_isDress RX6 wsX6_isDress rmX6_isDress G := F
  skip
  unfold wpX6_isDress at h
  refine z_iload_n F dX6_isDress_0 rfl 0 rfl ?_
  refine z_iconst (v := 0) F dX6_isDress_1 rfl ?_
  refine z_iconst (v := 5) F dX6_isDress_2 rfl ?_
  refine z_callSi (fun _ => []) F (mX6_isWithin G p0 (0 : Int32) (5 : Int32) _ h) gX6_isDress_X6_isWithin rfl hdX6_isWithin ⟨rfl, rfl, Nat.le_of_ble_eq_true rfl, Nat.le_of_ble_eq_true rfl, Nat.le_of_ble_eq_true rfl, Nat.le_of_ble_eq_true rfl⟩ [] [] [] rfl rfl (by decide) (fun _ => rfl) rfl (Nat.le_of_ble_eq_true rfl) dX6_isDress_3 (fun r_1 u9 h => ?_)
  have h9 := h.1
  have h := h.2
  exact hret r_1 () _ _ h dX6_isDress_6 (zbz_n h9)
abbrev rmX6_isColour : Room := { frames := 1, cells := 0, slots := 0, locals := 22 }
set_option maxRecDepth 100000 in
set_option maxHeartbeats 4000000 in
theorem mX6_isColour (G : ZG) (p0 : Int32) (Q : Int32 → Prop) (h : wpX6_isColour p0 Q) : ZMi G yX6_isColour wsX6_isColour rmX6_isColour [.int p0] ([]) (fun _ : Unit => []) (fun r _ => Q r) := by
  refine z_ofz (cc := cX6_isColour) (N := 1) (lv := [(0, .int p0)]) (by decide) rfl (Nat.le_of_ble_eq_true rfl) rfl (fun E F hret => ?_)
  have F : ZF E 1 cX6_isColour RX6 wsX6_isColour rmX6_isColour G := F
  skip
  unfold wpX6_isColour at h
  refine z_iload_n F dX6_isColour_0 rfl 0 rfl ?_
  refine z_iconst (v := 0) F dX6_isColour_1 rfl ?_
  refine z_iconst (v := 2) F dX6_isColour_2 rfl ?_
  refine z_callSi (fun _ => []) F (mX6_isWithin G p0 (0 : Int32) (2 : Int32) _ h) gX6_isColour_X6_isWithin rfl hdX6_isWithin ⟨rfl, rfl, Nat.le_of_ble_eq_true rfl, Nat.le_of_ble_eq_true rfl, Nat.le_of_ble_eq_true rfl, Nat.le_of_ble_eq_true rfl⟩ [] [] [] rfl rfl (by decide) (fun _ => rfl) rfl (Nat.le_of_ble_eq_true rfl) dX6_isColour_3 (fun r_1 u9 h => ?_)
  have h9 := h.1
  have h := h.2
  exact hret r_1 () _ _ h dX6_isColour_6 (zbz_n h9)
abbrev rmX6_isSet : Room := { frames := 1, cells := 0, slots := 0, locals := 22 }
set_option maxRecDepth 100000 in
set_option maxHeartbeats 4000000 in
theorem mX6_isSet (G : ZG) (p0 : Int32) (Q : Int32 → Prop) (h : wpX6_isSet p0 Q) : ZMi G yX6_isSet wsX6_isSet rmX6_isSet [.int p0] ([]) (fun _ : Unit => []) (fun r _ => Q r) := by
  refine z_ofz (cc := cX6_isSet) (N := 1) (lv := [(0, .int p0)]) (by decide) rfl (Nat.le_of_ble_eq_true rfl) rfl (fun E F hret => ?_)
  have F : ZF E 1 cX6_isSet RX6 wsX6_isSet rmX6_isSet G := F
  skip
  unfold wpX6_isSet at h
  refine z_iload_n F dX6_isSet_0 rfl 0 rfl ?_
  refine z_iconst (v := 0) F dX6_isSet_1 rfl ?_
  refine z_bipush (v := 63) F dX6_isSet_2 rfl ?_
  refine z_callSi (fun _ => []) F (mX6_isWithin G p0 (0 : Int32) (63 : Int32) _ h) gX6_isSet_X6_isWithin rfl hdX6_isWithin ⟨rfl, rfl, Nat.le_of_ble_eq_true rfl, Nat.le_of_ble_eq_true rfl, Nat.le_of_ble_eq_true rfl, Nat.le_of_ble_eq_true rfl⟩ [] [] [] rfl rfl (by decide) (fun _ => rfl) rfl (Nat.le_of_ble_eq_true rfl) dX6_isSet_4 (fun r_1 u9 h => ?_)
  have h9 := h.1
  have h := h.2
  exact hret r_1 () _ _ h dX6_isSet_7 (zbz_n h9)
abbrev rmJ6_bitCount_0f7a4 : Room := { frames := 0, cells := 0, slots := 0, locals := 0 }
set_option maxRecDepth 100000 in
set_option maxHeartbeats 4000000 in
theorem mJ6_bitCount_0f7a4 (G : ZG) (p0 : Int32) (Q : Int32 → Prop) (h : wpJ6_bitCount_0f7a4 p0 Q) : ZMi G yJ6_bitCount_0f7a4 wsJ6_bitCount_0f7a4 rmJ6_bitCount_0f7a4 [.int p0] ([]) (fun _ : Unit => []) (fun r _ => Q r) := by
  refine z_ofi (cc := cJ6_bitCount_0f7a4) (N := 1) (lv := [(0, .int p0)]) (by decide) rfl (Nat.le_of_ble_eq_true rfl) rfl (fun E F hret => ?_)
  have F : ZF E 1 cJ6_bitCount_0f7a4 RJ6 wsJ6_bitCount_0f7a4 rmJ6_bitCount_0f7a4 G := F
  have f0 : ZW E (.constant RJ6 265 (1431655765)) := F.at 1 rfl
  have f1 : ZW E (.constant RJ6 266 (858993459)) := F.at 2 rfl
  have f2 : ZW E (.constant RJ6 267 (252645135)) := F.at 3 rfl
  skip
  unfold wpJ6_bitCount_0f7a4 at h
  refine z_iload_n F dJ6_bitCount_0f7a4_0 rfl 0 rfl ?_
  refine z_iload_n F dJ6_bitCount_0f7a4_1 rfl 0 rfl ?_
  refine z_iconst (v := 1) F dJ6_bitCount_0f7a4_2 rfl ?_
  refine z_iushr F dJ6_bitCount_0f7a4_3 ?_
  refine z_ldcw (v := 1431655765) F dJ6_bitCount_0f7a4_4 f0 ?_
  refine z_iand F dJ6_bitCount_0f7a4_7 ?_
  refine z_isub F dJ6_bitCount_0f7a4_8 ?_
  refine z_topi (fun x0_1 e9 => ?_)
  have h := h x0_1 e9
  refine z_istore_n [(0, .int x0_1)] F dJ6_bitCount_0f7a4_9 rfl (by decide) rfl ?_
  refine z_iload_n F dJ6_bitCount_0f7a4_10 rfl 0 rfl ?_
  refine z_ldcw (v := 858993459) F dJ6_bitCount_0f7a4_11 f1 ?_
  refine z_iand F dJ6_bitCount_0f7a4_14 ?_
  refine z_iload_n F dJ6_bitCount_0f7a4_15 rfl 0 rfl ?_
  refine z_iconst (v := 2) F dJ6_bitCount_0f7a4_16 rfl ?_
  refine z_iushr F dJ6_bitCount_0f7a4_17 ?_
  refine z_ldcw (v := 858993459) F dJ6_bitCount_0f7a4_18 f1 ?_
  refine z_iand F dJ6_bitCount_0f7a4_21 ?_
  refine z_iadd F dJ6_bitCount_0f7a4_22 ?_
  refine z_topi (fun x0_2 e9 => ?_)
  have h := h x0_2 e9
  refine z_istore_n [(0, .int x0_2)] F dJ6_bitCount_0f7a4_23 rfl (by decide) rfl ?_
  refine z_iload_n F dJ6_bitCount_0f7a4_24 rfl 0 rfl ?_
  refine z_iload_n F dJ6_bitCount_0f7a4_25 rfl 0 rfl ?_
  refine z_iconst (v := 4) F dJ6_bitCount_0f7a4_26 rfl ?_
  refine z_iushr F dJ6_bitCount_0f7a4_27 ?_
  refine z_iadd F dJ6_bitCount_0f7a4_28 ?_
  refine z_ldcw (v := 252645135) F dJ6_bitCount_0f7a4_29 f2 ?_
  refine z_iand F dJ6_bitCount_0f7a4_32 ?_
  refine z_topi (fun x0_3 e9 => ?_)
  have h := h x0_3 e9
  refine z_istore_n [(0, .int x0_3)] F dJ6_bitCount_0f7a4_33 rfl (by decide) rfl ?_
  refine z_iload_n F dJ6_bitCount_0f7a4_34 rfl 0 rfl ?_
  refine z_iload_n F dJ6_bitCount_0f7a4_35 rfl 0 rfl ?_
  refine z_bipush (v := 8) F dJ6_bitCount_0f7a4_36 rfl ?_
  refine z_iushr F dJ6_bitCount_0f7a4_38 ?_
  refine z_iadd F dJ6_bitCount_0f7a4_39 ?_
  refine z_topi (fun x0_4 e9 => ?_)
  have h := h x0_4 e9
  refine z_istore_n [(0, .int x0_4)] F dJ6_bitCount_0f7a4_40 rfl (by decide) rfl ?_
  refine z_iload_n F dJ6_bitCount_0f7a4_41 rfl 0 rfl ?_
  refine z_iload_n F dJ6_bitCount_0f7a4_42 rfl 0 rfl ?_
  refine z_bipush (v := 16) F dJ6_bitCount_0f7a4_43 rfl ?_
  refine z_iushr F dJ6_bitCount_0f7a4_45 ?_
  refine z_iadd F dJ6_bitCount_0f7a4_46 ?_
  refine z_topi (fun x0_5 e9 => ?_)
  have h := h x0_5 e9
  refine z_istore_n [(0, .int x0_5)] F dJ6_bitCount_0f7a4_47 rfl (by decide) rfl ?_
  refine z_iload_n F dJ6_bitCount_0f7a4_48 rfl 0 rfl ?_
  refine z_bipush (v := 63) F dJ6_bitCount_0f7a4_49 rfl ?_
  refine z_iand F dJ6_bitCount_0f7a4_51 ?_
  exact hret (x0_5 &&& (63 : Int32)) () _ _ h dJ6_bitCount_0f7a4_52
abbrev rmX6_power : Room := { frames := 0, cells := 0, slots := 0, locals := 0 }
set_option maxRecDepth 100000 in
set_option maxHeartbeats 4000000 in
theorem mX6_power (G : ZG) (p0 : Int32) (p1 : Int32) (Q : Int64 → Prop) (h : wpX6_power p0 p1 Q) : ZMl G yX6_power wsX6_power rmX6_power [.int p0, .int p1] ([]) (fun _ : Unit => []) (fun r _ => Q r) := by
  refine z_ofl (cc := cX6_power) (N := 5) (lv := [(0, .int p0), (1, .int p1)]) (by decide) rfl (Nat.le_of_ble_eq_true rfl) rfl (fun E F hret => ?_)
  have F : ZF E 5 cX6_power RX6 wsX6_power rmX6_power G := F
  skip
  have t5 : ∀ (n : Nat) (x0 : Int32) (x1 : Int32) (x2 : Int64) (x4 : Int32), wpX6_power_L5 Q n x0 x1 x2 x4 → Z E 5 0 0 ([]) [(0, .int x0), (1, .int x1), (2, .long x2), (4, .int x4)] 5 [] := by
    intro n
    induction n with
    | zero => intro x0 x1 x2 x4 h; exact h.elim
    | succ n ihQ =>
      have ih5 : ∀ (x0 : Int32) (x1 : Int32) (x2 : Int64) (x4 : Int32), wpX6_power_L5 Q n x0 x1 x2 x4 → Z E 5 0 0 ([]) [(0, .int x0), (1, .int x1), (2, .long x2), (4, .int x4)] 5 [] := ihQ
      intro x0 x1 x2 x4 h
      have h : wpX6_power_H5 Q (wpX6_power_L5 Q n) x0 x1 x2 x4 := h
      generalize wpX6_power_L5 Q n = K5 at h ih5
      clear ihQ
      unfold wpX6_power_H5 at h
      refine z_iload F dX6_power_5 3 rfl ?_
      refine z_iload_n F dX6_power_7 rfl 1 rfl ?_
      refine z_icmp_ge 22 F dX6_power_8 (by decide) (fun c9 => ?_) (fun c9 => ?_)
      · have h := h.1 c9
        refine z_lload_n F dX6_power_22 rfl 2 rfl ?_
        exact hret x2 () _ _ h dX6_power_23
      · have h := h.2 c9
        refine z_lload_n F dX6_power_11 rfl 2 rfl ?_
        refine z_iload_n F dX6_power_12 rfl 0 rfl ?_
        refine z_i2l F dX6_power_13 ?_
        refine z_lmul F dX6_power_14 ?_
        refine z_topl (fun x2_1 e9 => ?_)
        have h := h x2_1 e9
        refine z_lstore_n [(2, .long x2_1), (0, .int x0), (1, .int x1), (4, .int x4)] F dX6_power_15 rfl (by decide) rfl ?_
        obtain ⟨x4_2, e9⟩ : ∃ z : Int32, z = x4 + 1 := ⟨_, rfl⟩
        have h := h x4_2 e9
        refine z_iinc (v := x4_2) [(4, .int x4_2), (2, .long x2_1), (0, .int x0), (1, .int x1)] F dX6_power_16 3 rfl (by rw [e9]; rfl) (by decide) rfl ?_
        refine z_goto 5 F dX6_power_19 (by decide) ?_
        exact z_lv [2, 3, 1, 0] rfl (ih5 x0 x1 x2_1 x4_2 h)
  unfold wpX6_power at h
  refine z_lconst (v := 1) F dX6_power_0 rfl ?_
  refine z_lstore_n [(2, .long (1 : Int64)), (0, .int p0), (1, .int p1)] F dX6_power_1 rfl (by decide) rfl ?_
  refine z_iconst (v := 0) F dX6_power_2 rfl ?_
  refine z_istore [(4, .int (0 : Int32)), (2, .long (1 : Int64)), (0, .int p0), (1, .int p1)] F dX6_power_3 (by decide) rfl ?_
  obtain ⟨n9, h⟩ := h
  exact z_lv [2, 3, 1, 0] rfl (t5 n9 p0 p1 (1 : Int64) (0 : Int32) h)
abbrev rmX6_fogWeight : Room := { frames := 1, cells := 0, slots := 0, locals := 24 }
set_option maxRecDepth 100000 in
set_option maxHeartbeats 4000000 in
theorem mX6_fogWeight (G : ZG) (p0 : Int32) (p1 : Int32) (p2 : Int32) (Q : Int64 → Prop) (h : wpX6_fogWeight p0 p1 p2 Q) : ZMl G yX6_fogWeight wsX6_fogWeight rmX6_fogWeight [.int p0, .int p1, .int p2] ([]) (fun _ : Unit => []) (fun r _ => Q r) := by
  refine z_ofl (cc := cX6_fogWeight) (N := 4) (lv := [(0, .int p0), (1, .int p1), (2, .int p2)]) (by decide) rfl (Nat.le_of_ble_eq_true rfl) rfl (fun E F hret => ?_)
  have F : ZF E 4 cX6_fogWeight RX6 wsX6_fogWeight rmX6_fogWeight G := F
  skip
  unfold wpX6_fogWeight at h
  refine z_iload_n F dX6_fogWeight_0 rfl 0 rfl ?_
  refine z_callSi (fun _ => []) F (mJ6_bitCount_0f7a4 G p0 _ h) gX6_fogWeight_J6_bitCount_0f7a4 rfl hdJ6_bitCount_0f7a4 ⟨rfl, rfl, Nat.le_of_ble_eq_true rfl, Nat.le_of_ble_eq_true rfl, Nat.le_of_ble_eq_true rfl, Nat.le_of_ble_eq_true rfl⟩ [] [] [] rfl rfl (by decide) (fun _ => rfl) rfl (Nat.le_of_ble_eq_true rfl) dX6_fogWeight_1 (fun r_1 u9 h => ?_)
  refine z_istore_n [(3, .int r_1), (0, .int p0), (1, .int p1), (2, .int p2)] F dX6_fogWeight_4 rfl (by decide) rfl ?_
  refine z_iload_n F dX6_fogWeight_5 rfl 3 rfl ?_
  refine z_iload_n F dX6_fogWeight_6 rfl 0 rfl ?_
  refine z_callSl (fun _ => []) F (mX6_power G p2 r_1 _ h) gX6_fogWeight_X6_power rfl hdX6_power ⟨rfl, rfl, Nat.le_of_ble_eq_true rfl, Nat.le_of_ble_eq_true rfl, Nat.le_of_ble_eq_true rfl, Nat.le_of_ble_eq_true rfl⟩ [] [] [] rfl rfl (by decide) (fun _ => rfl) rfl (Nat.le_of_ble_eq_true rfl) dX6_fogWeight_7 (fun r_2 u9 h => ?_)
  refine z_bipush (v := 10) F dX6_fogWeight_10 rfl ?_
  refine z_iload_n F dX6_fogWeight_12 rfl 3 rfl ?_
  refine z_isub F dX6_fogWeight_13 ?_
  refine z_iload_n F dX6_fogWeight_14 rfl 2 rfl ?_
  refine z_iload_n F dX6_fogWeight_15 rfl 0 rfl ?_
  refine z_isub F dX6_fogWeight_16 ?_
  refine z_callSl (fun _ => []) F (mX6_power G ((10 : Int32) - p2) (p1 - r_1) _ h) gX6_fogWeight_X6_power rfl hdX6_power ⟨rfl, rfl, Nat.le_of_ble_eq_true rfl, Nat.le_of_ble_eq_true rfl, Nat.le_of_ble_eq_true rfl, Nat.le_of_ble_eq_true rfl⟩ [] [] [] rfl rfl (by decide) (fun _ => rfl) rfl (Nat.le_of_ble_eq_true rfl) dX6_fogWeight_17 (fun r_3 u9 h => ?_)
  refine z_lmul F dX6_fogWeight_20 ?_
  exact hret (r_2 * r_3) () _ _ h dX6_fogWeight_21
abbrev rmX6_commonDivisor : Room := { frames := 0, cells := 0, slots := 0, locals := 0 }
set_option maxRecDepth 100000 in
set_option maxHeartbeats 4000000 in
theorem mX6_commonDivisor (G : ZG) (p0 : Int64) (p2 : Int64) (Q : Int64 → Prop) (h : wpX6_commonDivisor p0 p2 Q) : ZMl G yX6_commonDivisor wsX6_commonDivisor rmX6_commonDivisor [.long p0, .long p2] ([]) (fun _ : Unit => []) (fun r _ => Q r) := by
  refine z_ofl (cc := cX6_commonDivisor) (N := 11) (lv := [(0, .long p0), (2, .long p2)]) (by decide) rfl (Nat.le_of_ble_eq_true rfl) rfl (fun E F hret => ?_)
  have F : ZF E 11 cX6_commonDivisor RX6 wsX6_commonDivisor rmX6_commonDivisor G := F
  skip
  have t9 : ∀ (n : Nat) (x4 : Int64) (x6 : Int64) (x8 : Int32), wpX6_commonDivisor_L9 Q n x4 x6 x8 → Z E 11 0 0 ([]) [(4, .long x4), (6, .long x6), (8, .int x8)] 9 [] := by
    intro n
    induction n with
    | zero => intro x4 x6 x8 h; exact h.elim
    | succ n ihQ =>
      have ih9 : ∀ (x4 : Int64) (x6 : Int64) (x8 : Int32), wpX6_commonDivisor_L9 Q n x4 x6 x8 → Z E 11 0 0 ([]) [(4, .long x4), (6, .long x6), (8, .int x8)] 9 [] := ihQ
      intro x4 x6 x8 h
      have h : wpX6_commonDivisor_H9 Q (wpX6_commonDivisor_L9 Q n) x4 x6 x8 := h
      generalize wpX6_commonDivisor_L9 Q n = K9 at h ih9
      clear ihQ
      unfold wpX6_commonDivisor_H9 at h
      refine z_iload F dX6_commonDivisor_9 2 rfl ?_
      refine z_sipush (v := 200) F dX6_commonDivisor_11 rfl ?_
      refine z_icmp_ge 45 F dX6_commonDivisor_14 (by decide) (fun c9 => ?_) (fun c9 => ?_)
      · have h := h.1 c9
        refine z_lload F dX6_commonDivisor_45 0 rfl ?_
        exact hret x4 () _ _ h dX6_commonDivisor_47
      · have h := h.2 c9
        refine z_lload F dX6_commonDivisor_17 1 rfl ?_
        refine z_lconst (v := 0) F dX6_commonDivisor_19 rfl ?_
        refine z_lcmp F dX6_commonDivisor_20 ?_
        refine z_if_eq 45 F dX6_commonDivisor_21 (by decide) (fun c9 => ?_) (fun c9 => ?_)
        · have h := h.1 c9
          refine z_lload F dX6_commonDivisor_45 0 rfl ?_
          exact hret x4 () _ _ h dX6_commonDivisor_47
        · have h := h.2 c9
          refine z_lload F dX6_commonDivisor_24 0 rfl ?_
          refine z_lload F dX6_commonDivisor_26 1 rfl ?_
          have h9 := h.1
          have h := h.2
          refine z_lrem F dX6_commonDivisor_28 h9 ?_
          refine z_topl (fun x9_1 e9 => ?_)
          have h := h x9_1 e9
          refine z_lstore [(9, .long x9_1), (4, .long x4), (6, .long x6), (8, .int x8)] F dX6_commonDivisor_29 (by decide) rfl ?_
          refine z_lload F dX6_commonDivisor_31 2 rfl ?_
          refine z_lstore [(4, .long x6), (9, .long x9_1), (6, .long x6), (8, .int x8)] F dX6_commonDivisor_33 (by decide) rfl ?_
          refine z_lload F dX6_commonDivisor_35 1 rfl ?_
          refine z_lstore [(6, .long x9_1), (4, .long x6), (9, .long x9_1), (8, .int x8)] F dX6_commonDivisor_37 (by decide) rfl ?_
          obtain ⟨x8_2, e9⟩ : ∃ z : Int32, z = x8 + 1 := ⟨_, rfl⟩
          have h := h x8_2 e9
          refine z_iinc (v := x8_2) [(8, .int x8_2), (6, .long x9_1), (4, .long x6), (9, .long x9_1)] F dX6_commonDivisor_39 3 rfl (by rw [e9]; rfl) (by decide) rfl ?_
          refine z_goto 9 F dX6_commonDivisor_42 (by decide) ?_
          exact z_lv [2, 1, 0] rfl (ih9 x6 x9_1 x8_2 h)
  unfold wpX6_commonDivisor at h
  refine z_lload_n F dX6_commonDivisor_0 rfl 0 rfl ?_
  refine z_lstore [(4, .long p0), (0, .long p0), (2, .long p2)] F dX6_commonDivisor_1 (by decide) rfl ?_
  refine z_lload_n F dX6_commonDivisor_3 rfl 2 rfl ?_
  refine z_lstore [(6, .long p2), (4, .long p0), (0, .long p0), (2, .long p2)] F dX6_commonDivisor_4 (by decide) rfl ?_
  refine z_iconst (v := 0) F dX6_commonDivisor_6 rfl ?_
  refine z_istore [(8, .int (0 : Int32)), (6, .long p2), (4, .long p0), (0, .long p0), (2, .long p2)] F dX6_commonDivisor_7 (by decide) rfl ?_
  obtain ⟨n9, h⟩ := h
  exact z_lv [2, 1, 0] rfl (t9 n9 p0 p2 (0 : Int32) h)
