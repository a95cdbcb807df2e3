abbrev rmX1_noteOver : Room := { frames := 3, cells := 0, slots := 0, locals := 66 }
set_option maxRecDepth 100000 in
set_option maxHeartbeats 4000000 in
theorem mX1_noteOver (G : ZG) (a : Nat → Nat) (ab : Nat → Nat) (vy : Dy) (ve : Gr) (p1 : Int32) (Q : Dy → Gr → Prop) (h : wpX1_noteOver vy ve p1 Q) : ZMv G yX1_noteOver wsX1_noteOver rmX1_noteOver [.ref (a 0), .int p1] (w_Dy_Gr G a ab vy ve) (fun u9 : Dy × Gr => w_Dy_Gr G a ab u9.1 u9.2) (fun u9 => Q u9.1 u9.2) := by
  refine z_ofv (cc := cX1_noteOver) (N := 2) (lv := [(0, .ref (a 0)), (1, .int p1)]) (by decide) rfl (Nat.le_of_ble_eq_true rfl) rfl (fun E F hret => ?_)
  have F : ZF E 2 cX1_noteOver RX1 wsX1_noteOver rmX1_noteOver G := F
  have f0 : ZW E (.fieldLink RX1 25 "ColourEcho$Days" "firstOver" "I") := F.at 1 rfl
  have f1 : ZW E (.fieldLink RX1 12 "ColourEcho$Days" "end" "LColourEcho$Gorge;") := F.at 2 rfl
  have f2 : ZW E (.fieldLink RX1 53 "ColourEcho$Gorge" "day" "I") := F.at 3 rfl
  have iX1 : ∀ x ∈ u_ws RX1 TX1 4, x ∈ wsX1_noteOver := fun _ h => List.mem_cons_of_mem _ (List.mem_append_left _ (List.mem_append_right _ h))
  have iX3 : ∀ x ∈ u_ws RX3 TX3 13, x ∈ wsX1_noteOver := fun _ h => List.mem_cons_of_mem _ (List.mem_append_right _ h)
  unfold wpX1_noteOver at h
  refine z_aload_n F dX1_noteOver_0 rfl 0 rfl ?_
  refine z_get (ci := 1) F iX1 0 rfl rfl 3 (by decide) f0 rfl rfl dX1_noteOver_1 ?_
  refine z_bipush (v := -6) F dX1_noteOver_4 rfl ?_
  refine z_icmp_ne 32 F dX1_noteOver_6 (by decide) (fun c9 => ?_) (fun c9 => ?_)
  · have h := h.1 c9
    exact hret (vy, ve) _ _ h dX1_noteOver_32
  · have h := h.2 c9
    refine z_aload_n F dX1_noteOver_9 rfl 0 rfl ?_
    refine z_get (ci := 1) F iX1 0 rfl rfl 0 (by decide) f1 rfl rfl dX1_noteOver_10 ?_
    refine z_callVi (fun u9 => w_Dy_Gr G a ab vy u9) F (mX3_isOver G ab ve _ h) gX1_noteOver_X3_isOver rfl hdX3_isOver ⟨rfl, rfl, Nat.le_of_ble_eq_true rfl, Nat.le_of_ble_eq_true rfl, Nat.le_of_ble_eq_true rfl, Nat.le_of_ble_eq_true rfl⟩ 1 rfl rfl [1, 2, 3, 4, 5, 6, 7, 8] [0] [0, 1, 2, 3, 4, 5, 6, 7, 8] rfl rfl (by decide) (fun _ => rfl) rfl (Nat.le_of_ble_eq_true rfl) dX1_noteOver_13 (fun r_1 ve_2 h => ?_)
    refine z_if_eq 32 F dX1_noteOver_16 (by decide) (fun c9 => ?_) (fun c9 => ?_)
    · have h := h.1 c9
      exact hret (vy, ve_2) _ _ h dX1_noteOver_32
    · have h := h.2 c9
      refine z_aload_n F dX1_noteOver_19 rfl 0 rfl ?_
      refine z_aload_n F dX1_noteOver_20 rfl 0 rfl ?_
      refine z_get (ci := 1) F iX1 0 rfl rfl 0 (by decide) f1 rfl rfl dX1_noteOver_21 ?_
      refine z_get (ci := 3) F iX3 1 rfl rfl 9 (by decide) f2 rfl rfl dX1_noteOver_24 ?_
      refine z_iload_n F dX1_noteOver_27 rfl 1 rfl ?_
      refine z_isub F dX1_noteOver_28 ?_
      refine z_put (ci := 1) (ty := .int) (w_Dy_Gr G a ab (Dy_s_firstOver vy ((Gr_day ve_2) - p1)) ve_2) F iX1 tyX1 tyX1_ok nmX1 0 rfl rfl 3 (by decide) f0 rfl rfl rfl rfl rfl (Nat.le_of_ble_eq_true rfl) rfl dX1_noteOver_29 ?_
      exact hret ((Dy_s_firstOver vy ((Gr_day ve_2) - p1)), ve_2) _ _ h dX1_noteOver_32
abbrev rmX1_play : Room := { frames := 4, cells := 0, slots := 0, locals := 94 }
set_option maxRecDepth 100000 in
set_option maxHeartbeats 4000000 in
theorem mX1_play (G : ZG) (a : Nat → Nat) (ab : Nat → Nat) (ac : Nat → Nat) (ad : Nat → Nat) (vy : Dy) (ve : Gr) (vg : Gr) (vp : Pd) (Q : Dy → Gr → Gr → Pd → Prop) (h : wpX1_play vy ve vg vp Q) : ZMv G yX1_play wsX1_play rmX1_play [.ref (a 0), .ref (ac 0), .ref (ad 0)] (w_Dy_Gr_Gr_Pd G a ab ac ad vy ve vg vp) (fun u9 : Dy × Gr × Gr × Pd => w_Dy_Gr_Gr_Pd G a ab ac ad u9.1 u9.2.1 u9.2.2.1 u9.2.2.2) (fun u9 => Q u9.1 u9.2.1 u9.2.2.1 u9.2.2.2) := by
  refine z_ofv (cc := cX1_play) (N := 6) (lv := [(0, .ref (a 0)), (1, .ref (ac 0)), (2, .ref (ad 0))]) (by decide) rfl (Nat.le_of_ble_eq_true rfl) rfl (fun E F hret => ?_)
  have F : ZF E 6 cX1_play RX1 wsX1_play rmX1_play G := F
  have f0 : ZW E (.fieldLink RX1 12 "ColourEcho$Days" "end" "LColourEcho$Gorge;") := F.at 1 rfl
  have f1 : ZW E (.fieldLink RX1 18 "ColourEcho$Days" "acts" "I") := F.at 2 rfl
  have f2 : ZW E (.fieldLink RX1 22 "ColourEcho$Days" "reason" "I") := F.at 3 rfl
  have f3 : ZW E (.fieldLink RX1 25 "ColourEcho$Days" "firstOver" "I") := F.at 4 rfl
  have f4 : ZW E (.fieldLink RX1 32 "ColourEcho$Pad" "count" "I") := F.at 5 rfl
  have f5 : ZW E (.fieldLink RX1 53 "ColourEcho$Gorge" "day" "I") := F.at 7 rfl
  have f6 : ZW E (.fieldLink RX1 37 "ColourEcho$Pad" "signs" "[I") := F.at 6 rfl
  have iX1 : ∀ x ∈ u_ws RX1 TX1 4, x ∈ wsX1_play := fun _ h => List.mem_cons_of_mem _ (List.mem_append_left _ (List.mem_append_left _ (List.mem_append_right _ h)))
  have iX3 : ∀ x ∈ u_ws RX3 TX3 13, x ∈ wsX1_play := fun _ h => List.mem_cons_of_mem _ (List.mem_append_right _ h)
  have iX5 : ∀ x ∈ u_ws RX5 TX5 2, x ∈ wsX1_play := fun _ h => List.mem_cons_of_mem _ (List.mem_append_left _ (List.mem_append_right _ h))
  have t103 : ∀ (K26 : Dy → Gr → Gr → Pd → Int32 → Prop) (ih26 : ∀ (vy : Dy) (ve : Gr) (vg : Gr) (vp : Pd) (x3 : Int32), K26 vy ve vg vp x3 → Z E 6 0 0 (w_Dy_Gr_Gr_Pd G a ab ac ad vy ve vg vp) [(0, .ref (a 0)), (1, .ref (ac 0)), (2, .ref (ad 0)), (3, .int x3)] 26 []) (vy : Dy) (ve : Gr) (vg : Gr) (vp : Pd) (x3 : Int32) (x4 : Int32) (x5 : Int32), wpX1_play_B103 Q K26 vy ve vg vp x3 x4 x5 → Z E 6 0 0 (w_Dy_Gr_Gr_Pd G a ab ac ad vy ve vg vp) [(0, .ref (a 0)), (1, .ref (ac 0)), (2, .ref (ad 0)), (3, .int x3), (4, .int x4), (5, .int x5)] 103 [] := by
    intro K26 ih26 vy ve vg vp x3 x4 x5 h
    unfold wpX1_play_B103 at h
    refine z_aload_n F dX1_play_103 rfl 0 rfl ?_
    refine z_get (ci := 1) F iX1 0 rfl rfl 0 (by decide) f0 rfl rfl dX1_play_104 ?_
    refine z_iload F dX1_play_107 4 rfl ?_
    refine z_iload F dX1_play_109 5 rfl ?_
    refine z_callVv (fun u9 => w_Dy_Gr_Gr_Pd G a ab ac ad vy u9 vg vp) F (mX3_act G ab ve x4 x5 _ h) gX1_play_X3_act rfl hdX3_act ⟨rfl, rfl, Nat.le_of_ble_eq_true rfl, Nat.le_of_ble_eq_true rfl, Nat.le_of_ble_eq_true rfl, Nat.le_of_ble_eq_true rfl⟩ 1 rfl rfl [1, 2, 3, 4, 5, 6, 7, 8] [0, 9, 10, 11, 12, 13, 14, 15, 16, 17, 18] [0, 11, 12, 13, 14, 15, 16, 17, 18, 1, 2, 3, 4, 5, 6, 7, 8, 9, 10] rfl rfl (by decide) (fun _ => rfl) rfl (Nat.le_of_ble_eq_true rfl) dX1_play_111 (fun ve_14 h => ?_)
    refine z_aload_n F dX1_play_114 rfl 0 rfl ?_
    refine z_dup F dX1_play_115 rfl ?_
    refine z_get (ci := 1) F iX1 0 rfl rfl 1 (by decide) f1 rfl rfl dX1_play_116 ?_
    refine z_iconst (v := 1) F dX1_play_119 rfl ?_
    refine z_iadd F dX1_play_120 ?_
    refine z_put (ci := 1) (ty := .int) (w_Dy_Gr_Gr_Pd G a ab ac ad (Dy_s_acts vy ((Dy_acts vy) + (1 : Int32))) ve_14 vg vp) F iX1 tyX1 tyX1_ok nmX1 0 rfl rfl 1 (by decide) f1 rfl rfl rfl rfl rfl (Nat.le_of_ble_eq_true rfl) rfl dX1_play_121 ?_
    obtain ⟨x3_15, e9⟩ : ∃ z : Int32, z = x3 + 1 := ⟨_, rfl⟩
    have h := h x3_15 e9
    refine z_iinc (v := x3_15) [(3, .int x3_15), (0, .ref (a 0)), (1, .ref (ac 0)), (2, .ref (ad 0)), (4, .int x4), (5, .int x5)] F dX1_play_124 3 rfl (by rw [e9]; rfl) (by decide) rfl ?_
    refine z_goto 26 F dX1_play_127 (by decide) ?_
    exact z_lv [1, 2, 3, 0] rfl (ih26 (Dy_s_acts vy ((Dy_acts vy) + (1 : Int32))) ve_14 vg vp x3_15 h)
  have t63 : ∀ (K26 : Dy → Gr → Gr → Pd → Int32 → Prop) (ih26 : ∀ (vy : Dy) (ve : Gr) (vg : Gr) (vp : Pd) (x3 : Int32), K26 vy ve vg vp x3 → Z E 6 0 0 (w_Dy_Gr_Gr_Pd G a ab ac ad vy ve vg vp) [(0, .ref (a 0)), (1, .ref (ac 0)), (2, .ref (ad 0)), (3, .int x3)] 26 []) (vy : Dy) (ve : Gr) (vg : Gr) (vp : Pd) (x4 : Int32) (x5 : Int32) (s0 : Int32) (s1 : Int32), wpX1_play_B63 Q K26 vy ve vg vp x4 x5 s0 s1 → Z E 6 0 0 (w_Dy_Gr_Gr_Pd G a ab ac ad vy ve vg vp) [(0, .ref (a 0)), (1, .ref (ac 0)), (2, .ref (ad 0)), (4, .int x4), (5, .int x5)] 63 [.int s1, .int s0] := by
    intro K26 ih26 vy ve vg vp x4 x5 s0 s1 h
    unfold wpX1_play_B63 at h
    refine z_iadd F dX1_play_63 ?_
    refine z_topi (fun x3_9 e9 => ?_)
    have h := h x3_9 e9
    refine z_istore_n [(3, .int x3_9), (0, .ref (a 0)), (1, .ref (ac 0)), (2, .ref (ad 0)), (4, .int x4), (5, .int x5)] F dX1_play_64 rfl (by decide) rfl ?_
    refine z_aload_n F dX1_play_65 rfl 1 rfl ?_
    refine z_aload_n F dX1_play_66 rfl 1 rfl ?_
    refine z_get (ci := 1) F iX1 0 rfl rfl 0 (by decide) f0 rfl rfl dX1_play_67 ?_
    refine z_iload F dX1_play_70 4 rfl ?_
    refine z_iload F dX1_play_72 5 rfl ?_
    refine z_callVi (fun u9 => w_Dy_Gr_Gr_Pd G a ab ac ad vy u9 vg vp) F (mX3_hindrance G ab ve x4 x5 _ h) gX1_play_X3_hindrance rfl hdX3_hindrance ⟨rfl, rfl, Nat.le_of_ble_eq_true rfl, Nat.le_of_ble_eq_true rfl, Nat.le_of_ble_eq_true rfl, Nat.le_of_ble_eq_true rfl⟩ 1 rfl rfl [1, 2, 3, 4, 5, 6, 7, 8] [0, 9, 10, 11, 12, 13, 14, 15, 16, 17, 18] [0, 11, 12, 13, 14, 15, 16, 17, 18, 1, 2, 3, 4, 5, 6, 7, 8, 9, 10] rfl rfl (by decide) (fun _ => rfl) rfl (Nat.le_of_ble_eq_true rfl) dX1_play_74 (fun r_10 ve_11 h => ?_)
    refine z_put (ci := 1) (ty := .int) (w_Dy_Gr_Gr_Pd G a ab ac ad (Dy_s_reason vy r_10) ve_11 vg vp) F iX1 tyX1 tyX1_ok nmX1 0 rfl rfl 2 (by decide) f2 rfl rfl rfl rfl rfl (Nat.le_of_ble_eq_true rfl) rfl dX1_play_77 ?_
    refine z_aload_n F dX1_play_80 rfl 1 rfl ?_
    refine z_get (ci := 1) (v := .int r_10) F iX1 0 rfl rfl 2 (by decide) f2 rfl rfl dX1_play_81 ?_
    refine z_if_eq 88 F dX1_play_84 (by decide) (fun c9 => ?_) (fun c9 => ?_)
    · have h := h.1 c9
      refine z_iload F dX1_play_88 4 rfl ?_
      refine z_bipush (v := 46) F dX1_play_90 rfl ?_
      refine z_icmp_ne 103 F dX1_play_92 (by decide) (fun c9 => ?_) (fun c9 => ?_)
      · have h := h.1 c9
        exact z_lv [1, 2, 3, 0, 4, 5] rfl (t103 K26 ih26 (Dy_s_reason vy r_10) ve_11 vg vp x3_9 x4 x5 h)
      · have h := h.2 c9
        refine z_aload_n F dX1_play_95 rfl 1 rfl ?_
        refine z_aload_n F dX1_play_96 rfl 2 rfl ?_
        refine z_get (ci := 3) F iX3 9 rfl rfl 9 (by decide) f5 rfl rfl dX1_play_97 ?_
        refine z_callVv (fun u9 => w_Dy_Gr_Gr_Pd G a ab ac ad u9.1 u9.2 vg vp) F (mX1_noteOver G a ab (Dy_s_reason vy r_10) ve_11 (Gr_day vg) _ h) gX1_play_X1_noteOver rfl hdX1_noteOver ⟨rfl, rfl, Nat.le_of_ble_eq_true rfl, Nat.le_of_ble_eq_true rfl, Nat.le_of_ble_eq_true rfl, Nat.le_of_ble_eq_true rfl⟩ 0 rfl rfl [0, 1, 2, 3, 4, 5, 6, 7, 8] [9, 10, 11, 12, 13, 14, 15, 16, 17, 18] [10, 11, 12, 13, 14, 15, 16, 17, 18, 0, 1, 2, 3, 4, 5, 6, 7, 8, 9] rfl rfl (by decide) (fun _ => rfl) rfl (Nat.le_of_ble_eq_true rfl) dX1_play_100 (fun u9 h => ?_)
        obtain ⟨vy_12, ve_13⟩ := u9
        refine z_w (w' := w_Dy_Gr_Gr_Pd G a ab ac ad vy_12 ve_13 vg vp) rfl ?_
        exact z_lv [1, 2, 3, 0, 4, 5] rfl (t103 K26 ih26 vy_12 ve_13 vg vp x3_9 x4 x5 h)
    · have h := h.2 c9
      exact hret ((Dy_s_reason vy r_10), ve_11, vg, vp) _ _ h dX1_play_87
  have t26 : ∀ (n : Nat) (vy : Dy) (ve : Gr) (vg : Gr) (vp : Pd) (x3 : Int32), wpX1_play_L26 Q n vy ve vg vp x3 → Z E 6 0 0 (w_Dy_Gr_Gr_Pd G a ab ac ad vy ve vg vp) [(0, .ref (a 0)), (1, .ref (ac 0)), (2, .ref (ad 0)), (3, .int x3)] 26 [] := by
    intro n
    induction n with
    | zero => intro vy ve vg vp x3 h; exact h.elim
    | succ n ihQ =>
      have ih26 : ∀ (vy : Dy) (ve : Gr) (vg : Gr) (vp : Pd) (x3 : Int32), wpX1_play_L26 Q n vy ve vg vp x3 → Z E 6 0 0 (w_Dy_Gr_Gr_Pd G a ab ac ad vy ve vg vp) [(0, .ref (a 0)), (1, .ref (ac 0)), (2, .ref (ad 0)), (3, .int x3)] 26 [] := ihQ
      intro vy ve vg vp x3 h
      have h : wpX1_play_H26 Q (wpX1_play_L26 Q n) vy ve vg vp x3 := h
      generalize wpX1_play_L26 Q n = K26 at h ih26
      clear ihQ
      unfold wpX1_play_H26 at h
      refine z_iload_n F dX1_play_26 rfl 3 rfl ?_
      refine z_aload_n F dX1_play_27 rfl 2 rfl ?_
      refine z_get (ci := 5) F iX5 17 rfl rfl 1 (by decide) f4 rfl rfl dX1_play_28 ?_
      refine z_icmp_ge 130 F dX1_play_31 (by decide) (fun c9 => ?_) (fun c9 => ?_)
      · have h := h.1 c9
        refine z_aload_n F dX1_play_130 rfl 0 rfl ?_
        refine z_aload_n F dX1_play_131 rfl 1 rfl ?_
        refine z_get (ci := 3) F iX3 9 rfl rfl 9 (by decide) f5 rfl rfl dX1_play_132 ?_
        refine z_callVv (fun u9 => w_Dy_Gr_Gr_Pd G a ab ac ad u9.1 u9.2 vg vp) F (mX1_noteOver G a ab vy ve (Gr_day vg) _ h) gX1_play_X1_noteOver rfl hdX1_noteOver ⟨rfl, rfl, Nat.le_of_ble_eq_true rfl, Nat.le_of_ble_eq_true rfl, Nat.le_of_ble_eq_true rfl, Nat.le_of_ble_eq_true rfl⟩ 0 rfl rfl [0, 1, 2, 3, 4, 5, 6, 7, 8] [9, 10, 11, 12, 13, 14, 15, 16, 17, 18] [10, 11, 12, 13, 14, 15, 16, 17, 18, 0, 1, 2, 3, 4, 5, 6, 7, 8, 9] rfl rfl (by decide) (fun _ => rfl) rfl (Nat.le_of_ble_eq_true rfl) dX1_play_135 (fun u9 h => ?_)
        obtain ⟨vy_3, ve_4⟩ := u9
        refine z_w (w' := w_Dy_Gr_Gr_Pd G a ab ac ad vy_3 ve_4 vg vp) rfl ?_
        exact hret (vy_3, ve_4, vg, vp) _ _ h dX1_play_138
      · have h := h.2 c9
        refine z_aload_n F dX1_play_34 rfl 2 rfl ?_
        refine z_get (ci := 5) F iX5 17 rfl rfl 0 (by decide) f6 rfl rfl dX1_play_35 ?_
        refine z_iload_n F dX1_play_38 rfl 3 rfl ?_
        have h9 := h.1
        have h := h.2
        refine z_iald F 18 rfl h9 dX1_play_39 ?_
        refine z_topi (fun x4_5 e9 => ?_)
        have h := h x4_5 e9
        refine z_istore [(4, .int x4_5), (0, .ref (a 0)), (1, .ref (ac 0)), (2, .ref (ad 0)), (3, .int x3)] F dX1_play_40 (by decide) rfl ?_
        refine z_aload_n F dX1_play_42 rfl 3 rfl ?_
        refine z_iload_n F dX1_play_43 rfl 4 rfl ?_
        refine z_callVi (fun u9 => w_Dy_Gr_Gr_Pd G a ab ac ad vy ve vg u9) F (mX5_digitAt G ad vp x3 _ h) gX1_play_X5_digitAt rfl hdX5_digitAt ⟨rfl, rfl, Nat.le_of_ble_eq_true rfl, Nat.le_of_ble_eq_true rfl, Nat.le_of_ble_eq_true rfl, Nat.le_of_ble_eq_true rfl⟩ 17 rfl rfl [17, 18] [0, 1, 2, 3, 4, 5, 6, 7, 8, 9, 10, 11, 12, 13, 14, 15, 16] [0, 1, 2, 3, 4, 5, 6, 7, 8, 9, 10, 11, 12, 13, 14, 15, 16, 17, 18] rfl rfl (by decide) (fun _ => rfl) rfl (Nat.le_of_ble_eq_true rfl) dX1_play_44 (fun r_6 vp_7 h => ?_)
        refine z_istore [(5, .int r_6), (4, .int x4_5), (0, .ref (a 0)), (1, .ref (ac 0)), (2, .ref (ad 0)), (3, .int x3)] F dX1_play_47 (by decide) rfl ?_
        refine z_iload_n F dX1_play_49 rfl 5 rfl ?_
        refine z_iload F dX1_play_50 1 rfl ?_
        refine z_callSi (fun _ => w_Dy_Gr_Gr_Pd G a ab ac ad vy ve vg vp_7) F (mX5_takesDigit G x4_5 _ h) gX1_play_X5_takesDigit rfl hdX5_takesDigit ⟨rfl, rfl, Nat.le_of_ble_eq_true rfl, Nat.le_of_ble_eq_true rfl, Nat.le_of_ble_eq_true rfl, Nat.le_of_ble_eq_true rfl⟩ [] [0, 1, 2, 3, 4, 5, 6, 7, 8, 9, 10, 11, 12, 13, 14, 15, 16, 17, 18] [0, 1, 2, 3, 4, 5, 6, 7, 8, 9, 10, 11, 12, 13, 14, 15, 16, 17, 18] rfl rfl (by decide) (fun _ => rfl) rfl (Nat.le_of_ble_eq_true rfl) dX1_play_52 (fun r_8 u9 h => ?_)
        refine z_if_eq 62 F dX1_play_55 (by decide) (fun c9 => ?_) (fun c9 => ?_)
        · have h := h.1 c9
          refine z_iconst (v := 0) F dX1_play_62 rfl ?_
          exact z_lv [2, 3, 4, 1, 0] rfl (t63 K26 ih26 vy ve vg vp_7 x4_5 r_6 x3 (0 : Int32) h)
        · have h := h.2 c9
          refine z_iconst (v := 1) F dX1_play_58 rfl ?_
          refine z_goto 63 F dX1_play_59 (by decide) ?_
          exact z_lv [2, 3, 4, 1, 0] rfl (t63 K26 ih26 vy ve vg vp_7 x4_5 r_6 x3 (1 : Int32) h)
  unfold wpX1_play at h
  refine z_aload_n F dX1_play_0 rfl 0 rfl ?_
  refine z_get (ci := 1) F iX1 0 rfl rfl 0 (by decide) f0 rfl rfl dX1_play_1 ?_
  refine z_aload_n F dX1_play_4 rfl 1 rfl ?_
  refine z_callVv (fun u9 => w_Dy_Gr_Gr_Pd G a ab ac ad vy u9.1 u9.2 vp) F (mX3_become G ab ac ve vg _ h) gX1_play_X3_become rfl hdX3_become ⟨rfl, rfl, Nat.le_of_ble_eq_true rfl, Nat.le_of_ble_eq_true rfl, Nat.le_of_ble_eq_true rfl, Nat.le_of_ble_eq_true rfl⟩ 1 rfl rfl [1, 2, 3, 4, 5, 6, 7, 8, 9, 10, 11, 12, 13, 14, 15, 16] [0, 17, 18] [0, 3, 4, 5, 6, 7, 8, 9, 10, 11, 12, 13, 14, 15, 16, 17, 18, 1, 2] rfl rfl (by decide) (fun _ => rfl) rfl (Nat.le_of_ble_eq_true rfl) dX1_play_5 (fun u9 h => ?_)
  obtain ⟨ve_1, vg_2⟩ := u9
  refine z_w (w' := w_Dy_Gr_Gr_Pd G a ab ac ad vy ve_1 vg_2 vp) rfl ?_
  refine z_aload_n F dX1_play_8 rfl 0 rfl ?_
  refine z_iconst (v := 0) F dX1_play_9 rfl ?_
  refine z_put (ci := 1) (ty := .int) (w_Dy_Gr_Gr_Pd G a ab ac ad (Dy_s_acts vy (0 : Int32)) ve_1 vg_2 vp) F iX1 tyX1 tyX1_ok nmX1 0 rfl rfl 1 (by decide) f1 rfl rfl rfl rfl rfl (Nat.le_of_ble_eq_true rfl) rfl dX1_play_10 ?_
  refine z_aload_n F dX1_play_13 rfl 0 rfl ?_
  refine z_iconst (v := 0) F dX1_play_14 rfl ?_
  refine z_put (ci := 1) (ty := .int) (w_Dy_Gr_Gr_Pd G a ab ac ad (Dy_s_reason (Dy_s_acts vy (0 : Int32)) (0 : Int32)) ve_1 vg_2 vp) F iX1 tyX1 tyX1_ok nmX1 0 rfl rfl 2 (by decide) f2 rfl rfl rfl rfl rfl (Nat.le_of_ble_eq_true rfl) rfl dX1_play_15 ?_
  refine z_aload_n F dX1_play_18 rfl 0 rfl ?_
  refine z_bipush (v := -6) F dX1_play_19 rfl ?_
  refine z_put (ci := 1) (ty := .int) (w_Dy_Gr_Gr_Pd G a ab ac ad (Dy_s_firstOver (Dy_s_reason (Dy_s_acts vy (0 : Int32)) (0 : Int32)) (-6 : Int32)) ve_1 vg_2 vp) F iX1 tyX1 tyX1_ok nmX1 0 rfl rfl 3 (by decide) f3 rfl rfl rfl rfl rfl (Nat.le_of_ble_eq_true rfl) rfl dX1_play_21 ?_
  refine z_iconst (v := 0) F dX1_play_24 rfl ?_
  refine z_istore_n [(3, .int (0 : Int32)), (0, .ref (a 0)), (1, .ref (ac 0)), (2, .ref (ad 0))] F dX1_play_25 rfl (by decide) rfl ?_
  obtain ⟨n9, h⟩ := h
  exact z_lv [1, 2, 3, 0] rfl (t26 n9 (Dy_s_firstOver (Dy_s_reason (Dy_s_acts vy (0 : Int32)) (0 : Int32)) (-6 : Int32)) ve_1 vg_2 vp (0 : Int32) h)
abbrev rmX2_loses : Room := { frames := 2, cells := 0, slots := 0, locals := 46 }
set_option maxRecDepth 100000 in
set_option maxHeartbeats 4000000 in
theorem mX2_loses (G : ZG) (a : Nat → Nat) (ab : Nat → Nat) (vt : Gm) (vg : Gr) (p2 : Int32) (Q : Int32 → Gm → Gr → Prop) (h : wpX2_loses vt vg p2 Q) : ZMi G yX2_loses wsX2_loses rmX2_loses [.ref (a 0), .ref (ab 0), .int p2] (w_Gm_Gr G a ab vt vg) (fun u9 : Gm × Gr => w_Gm_Gr G a ab u9.1 u9.2) (fun r u9 => Q r u9.1 u9.2) := by
  refine z_ofz (cc := cX2_loses) (N := 4) (lv := [(0, .ref (a 0)), (1, .ref (ab 0)), (2, .int p2)]) (by decide) rfl (Nat.le_of_ble_eq_true rfl) rfl (fun E F hret => ?_)
  have F : ZF E 4 cX2_loses RX2 wsX2_loses rmX2_loses G := F
  have f0 : ZW E (.fieldLink RX2 43 "ColourEcho$Gorge" "most" "I") := F.at 1 rfl
  have iX3 : ∀ x ∈ u_ws RX3 TX3 13, x ∈ wsX2_loses := fun _ h => List.mem_cons_of_mem _ (List.mem_append_right _ h)
  have t2 : ∀ (n : Nat) (vt : Gm) (vg : Gr) (x2 : Int32) (x3 : Int32), wpX2_loses_L2 Q n vt vg x2 x3 → Z E 4 0 0 (w_Gm_Gr G a ab vt vg) [(1, .ref (ab 0)), (2, .int x2), (3, .int x3)] 2 [] := by
    intro n
    induction n with
    | zero => intro vt vg x2 x3 h; exact h.elim
    | succ n ihQ =>
      have ih2 : ∀ (vt : Gm) (vg : Gr) (x2 : Int32) (x3 : Int32), wpX2_loses_L2 Q n vt vg x2 x3 → Z E 4 0 0 (w_Gm_Gr G a ab vt vg) [(1, .ref (ab 0)), (2, .int x2), (3, .int x3)] 2 [] := ihQ
      intro vt vg x2 x3 h
      have h : wpX2_loses_H2 Q (wpX2_loses_L2 Q n) vt vg x2 x3 := h
      generalize wpX2_loses_L2 Q n = K2 at h ih2
      clear ihQ
      unfold wpX2_loses_H2 at h
      refine z_iload_n F dX2_loses_2 rfl 2 rfl ?_
      refine z_iconst (v := 3) F dX2_loses_3 rfl ?_
      refine z_icmp_ge 33 F dX2_loses_4 (by decide) (fun c9 => ?_) (fun c9 => ?_)
      · have h := h.1 c9
        refine z_iconst (v := 0) F dX2_loses_33 rfl ?_
        exact hret (0 : Int32) (vt, vg) _ _ h dX2_loses_34 (by decide)
      · have h := h.2 c9
        refine z_aload_n F dX2_loses_7 rfl 0 rfl ?_
        refine z_iload_n F dX2_loses_8 rfl 2 rfl ?_
        refine z_aload_n F dX2_loses_9 rfl 0 rfl ?_
        refine z_iload_n F dX2_loses_10 rfl 1 rfl ?_
        refine z_iload_n F dX2_loses_11 rfl 2 rfl ?_
        refine z_callVi (fun u9 => w_Gm_Gr G a ab vt u9) F (mX3_worthOfSet G ab vg x2 x3 _ h) gX2_loses_X3_worthOfSet rfl hdX3_worthOfSet ⟨rfl, rfl, Nat.le_of_ble_eq_true rfl, Nat.le_of_ble_eq_true rfl, Nat.le_of_ble_eq_true rfl, Nat.le_of_ble_eq_true rfl⟩ 3 rfl rfl [3, 4, 5, 6, 7, 8, 9, 10] [0, 1, 2] [0, 1, 2, 3, 4, 5, 6, 7, 8, 9, 10] rfl rfl (by decide) (fun _ => rfl) rfl (Nat.le_of_ble_eq_true rfl) dX2_loses_12 (fun r_1 vg_2 h => ?_)
        refine z_callVi (fun u9 => w_Gm_Gr G a ab vt u9) F (mX3_seenToday G ab vg_2 x3 r_1 _ h) gX2_loses_X3_seenToday rfl hdX3_seenToday ⟨rfl, rfl, Nat.le_of_ble_eq_true rfl, Nat.le_of_ble_eq_true rfl, Nat.le_of_ble_eq_true rfl, Nat.le_of_ble_eq_true rfl⟩ 3 rfl rfl [3, 4, 5, 6, 7, 8, 9, 10] [0, 1, 2] [0, 1, 2, 3, 4, 5, 6, 7, 8, 9, 10] rfl rfl (by decide) (fun _ => rfl) rfl (Nat.le_of_ble_eq_true rfl) dX2_loses_15 (fun r_3 vg_4 h => ?_)
        refine z_aload_n F dX2_loses_18 rfl 0 rfl ?_
        refine z_get (ci := 3) F iX3 3 rfl rfl 8 (by decide) f0 rfl rfl dX2_loses_19 ?_
        refine z_icmp_le 27 F dX2_loses_22 (by decide) (fun c9 => ?_) (fun c9 => ?_)
        · have h := h.1 c9
          obtain ⟨x3_5, e9⟩ : ∃ z : Int32, z = x3 + 1 := ⟨_, rfl⟩
          have h := h x3_5 e9
          refine z_iinc (v := x3_5) [(3, .int x3_5), (1, .ref (ab 0)), (2, .int x2)] F dX2_loses_27 2 rfl (by rw [e9]; rfl) (by decide) rfl ?_
          refine z_goto 2 F dX2_loses_30 (by decide) ?_
          exact z_lv [1, 2, 0] rfl (ih2 vt vg_4 x2 x3_5 h)
        · have h := h.2 c9
          refine z_iconst (v := 1) F dX2_loses_25 rfl ?_
          exact hret (1 : Int32) (vt, vg_4) _ _ h dX2_loses_26 (by decide)
  unfold wpX2_loses at h
  refine z_iconst (v := 0) F dX2_loses_0 rfl ?_
  refine z_istore_n [(3, .int (0 : Int32)), (0, .ref (a 0)), (1, .ref (ab 0)), (2, .int p2)] F dX2_loses_1 rfl (by decide) rfl ?_
  obtain ⟨n9, h⟩ := h
  exact z_lv [2, 3, 0] rfl (t2 n9 vt vg p2 (0 : Int32) h)
abbrev rmX2_solveLeft : Room := { frames := 3, cells := 0, slots := 0, locals := 69 }
set_option maxRecDepth 100000 in
set_option maxHeartbeats 4000000 in
theorem mX2_solveLeft (G : ZG) (a : Nat → Nat) (ab : Nat → Nat) (vt : Gm) (vg : Gr) (p2 : Int32) (Q : Gm → Gr → Prop) (h : wpX2_solveLeft vt vg p2 Q) : ZMv G yX2_solveLeft wsX2_solveLeft rmX2_solveLeft [.ref (a 0), .ref (ab 0), .int p2] (w_Gm_Gr G a ab vt vg) (fun u9 : Gm × Gr => w_Gm_Gr G a ab u9.1 u9.2) (fun u9 => Q u9.1 u9.2) := by
  refine z_ofv (cc := cX2_solveLeft) (N := 6) (lv := [(0, .ref (a 0)), (1, .ref (ab 0)), (2, .int p2)]) (by decide) rfl (Nat.le_of_ble_eq_true rfl) rfl (fun E F hret => ?_)
  have F : ZF E 6 cX2_solveLeft RX2 wsX2_solveLeft rmX2_solveLeft G := F
  have f0 : ZW E (.fieldLink RX2 9 "ColourEcho$Game" "best" "[I") := F.at 1 rfl
  have f1 : ZW E (.fieldLink RX2 15 "ColourEcho$Game" "choice" "[I") := F.at 2 rfl
  have f2 : ZW E (.initialized RX6) := F.at 5 rfl
  have f3 : ZW E (.static yX6_has) := F.at 4 rfl
  have f4 : ZW E (.fieldLink RX2 18 "ColourEcho$Game" "whole" "I") := F.at 3 rfl
  have iX2 : ∀ x ∈ u_ws RX2 TX2 3, x ∈ wsX2_solveLeft := fun _ h => List.mem_cons_of_mem _ (List.mem_append_left _ (List.mem_append_right _ h))
  have t97 : ∀ (K17 : Gm → Gr → Int32 → Int32 → Prop) (ih17 : ∀ (vt : Gm) (vg : Gr) (x2 : Int32) (x3 : Int32), K17 vt vg x2 x3 → Z E 6 0 0 (w_Gm_Gr G a ab vt vg) [(0, .ref (a 0)), (1, .ref (ab 0)), (2, .int x2), (3, .int x3)] 17 []) (vt : Gm) (vg : Gr) (x2 : Int32) (x3 : Int32), wpX2_solveLeft_B97 Q K17 vt vg x2 x3 → Z E 6 0 0 (w_Gm_Gr G a ab vt vg) [(0, .ref (a 0)), (1, .ref (ab 0)), (2, .int x2), (3, .int x3)] 97 [] := by
    intro K17 ih17 vt vg x2 x3 h
    unfold wpX2_solveLeft_B97 at h
    obtain ⟨x3_6, e9⟩ : ∃ z : Int32, z = x3 + 1 := ⟨_, rfl⟩
    have h := h x3_6 e9
    refine z_iinc (v := x3_6) [(3, .int x3_6), (0, .ref (a 0)), (1, .ref (ab 0)), (2, .int x2)] F dX2_solveLeft_97 3 rfl (by rw [e9]; rfl) (by decide) rfl ?_
    refine z_goto 17 F dX2_solveLeft_100 (by decide) ?_
    exact z_lv [1, 2, 3, 0] rfl (ih17 vt vg x2 x3_6 h)
  have t69 : ∀ (K17 : Gm → Gr → Int32 → Int32 → Prop) (ih17 : ∀ (vt : Gm) (vg : Gr) (x2 : Int32) (x3 : Int32), K17 vt vg x2 x3 → Z E 6 0 0 (w_Gm_Gr G a ab vt vg) [(0, .ref (a 0)), (1, .ref (ab 0)), (2, .int x2), (3, .int x3)] 17 []) (vt : Gm) (vg : Gr) (x2 : Int32) (x3 : Int32) (s0 : Int32), wpX2_solveLeft_B69 Q K17 vt vg x2 x3 s0 → Z E 6 0 0 (w_Gm_Gr G a ab vt vg) [(0, .ref (a 0)), (1, .ref (ab 0)), (2, .int x2), (3, .int x3)] 69 [.int s0] := by
    intro K17 ih17 vt vg x2 x3 s0 h
    unfold wpX2_solveLeft_B69 at h
    refine z_istore [(5, .int s0), (0, .ref (a 0)), (1, .ref (ab 0)), (2, .int x2), (3, .int x3)] F dX2_solveLeft_69 (by decide) rfl ?_
    refine z_iload F dX2_solveLeft_71 0 rfl ?_
    refine z_aload_n F dX2_solveLeft_73 rfl 1 rfl ?_
    refine z_get (ci := 2) F iX2 0 rfl rfl 0 (by decide) f0 rfl rfl dX2_solveLeft_74 ?_
    refine z_iload_n F dX2_solveLeft_77 rfl 3 rfl ?_
    have h9 := h.1
    have h := h.2
    refine z_iald F 1 rfl h9 dX2_solveLeft_78 ?_
    refine z_icmp_le 97 F dX2_solveLeft_79 (by decide) (fun c9 => ?_) (fun c9 => ?_)
    · have h := h.1 c9
      exact z_lv [1, 2, 3, 4] rfl (t97 K17 ih17 vt vg x2 x3 h)
    · have h := h.2 c9
      refine z_aload_n F dX2_solveLeft_82 rfl 1 rfl ?_
      refine z_get (ci := 2) F iX2 0 rfl rfl 0 (by decide) f0 rfl rfl dX2_solveLeft_83 ?_
      refine z_iload_n F dX2_solveLeft_86 rfl 3 rfl ?_
      refine z_iload F dX2_solveLeft_87 0 rfl ?_
      have h9 := h.1
      have h := h.2
      refine z_iast (w_Gm_Gr G a ab (Gm_s_best vt (upd (Gm_best vt) (x2).toNatClampNeg s0)) vg) F 1 rfl h9 rfl dX2_solveLeft_89 ?_
      refine z_aload_n F dX2_solveLeft_90 rfl 1 rfl ?_
      refine z_get (ci := 2) F iX2 0 rfl rfl 1 (by decide) f1 rfl rfl dX2_solveLeft_91 ?_
      refine z_iload_n F dX2_solveLeft_94 rfl 3 rfl ?_
      refine z_iload_n F dX2_solveLeft_95 rfl 4 rfl ?_
      have h9 := h.1
      have h := h.2
      refine z_iast (f := (Gm_choice vt)) (w_Gm_Gr G a ab (Gm_s_choice (Gm_s_best vt (upd (Gm_best vt) (x2).toNatClampNeg s0)) (upd (Gm_choice vt) (x2).toNatClampNeg x3)) vg) F 2 rfl h9 rfl dX2_solveLeft_96 ?_
      exact z_lv [1, 2, 3, 4] rfl (t97 K17 ih17 (Gm_s_choice (Gm_s_best vt (upd (Gm_best vt) (x2).toNatClampNeg s0)) (upd (Gm_choice vt) (x2).toNatClampNeg x3)) vg x2 x3 h)
  have t17 : ∀ (n : Nat) (vt : Gm) (vg : Gr) (x2 : Int32) (x3 : Int32), wpX2_solveLeft_L17 Q n vt vg x2 x3 → Z E 6 0 0 (w_Gm_Gr G a ab vt vg) [(0, .ref (a 0)), (1, .ref (ab 0)), (2, .int x2), (3, .int x3)] 17 [] := by
    intro n
    induction n with
    | zero => intro vt vg x2 x3 h; exact h.elim
    | succ n ihQ =>
      have ih17 : ∀ (vt : Gm) (vg : Gr) (x2 : Int32) (x3 : Int32), wpX2_solveLeft_L17 Q n vt vg x2 x3 → Z E 6 0 0 (w_Gm_Gr G a ab vt vg) [(0, .ref (a 0)), (1, .ref (ab 0)), (2, .int x2), (3, .int x3)] 17 [] := ihQ
      intro vt vg x2 x3 h
      have h : wpX2_solveLeft_H17 Q (wpX2_solveLeft_L17 Q n) vt vg x2 x3 := h
      generalize wpX2_solveLeft_L17 Q n = K17 at h ih17
      clear ihQ
      unfold wpX2_solveLeft_H17 at h
      refine z_iload_n F dX2_solveLeft_17 rfl 3 rfl ?_
      refine z_bipush (v := 6) F dX2_solveLeft_18 rfl ?_
      refine z_icmp_ge 103 F dX2_solveLeft_20 (by decide) (fun c9 => ?_) (fun c9 => ?_)
      · have h := h.1 c9
        exact hret (vt, vg) _ _ h dX2_solveLeft_103
      · have h := h.2 c9
        refine z_iload_n F dX2_solveLeft_23 rfl 2 rfl ?_
        refine z_iload_n F dX2_solveLeft_24 rfl 3 rfl ?_
        refine z_callNi (fun _ => w_Gm_Gr G a ab vt vg) F (mX6_has G x2 x3 _ h) gX2_solveLeft_X6_has_n26 (List.mem_of_getElem? (i := 16) rfl) f2 f3 rfl hdX6_has ⟨rfl, rfl, Nat.le_of_ble_eq_true rfl, Nat.le_of_ble_eq_true rfl, Nat.le_of_ble_eq_true rfl, Nat.le_of_ble_eq_true rfl⟩ [] [0, 1, 2, 3, 4, 5, 6, 7, 8, 9, 10] [0, 1, 2, 3, 4, 5, 6, 7, 8, 9, 10] rfl rfl (by decide) (fun _ => rfl) rfl (Nat.le_of_ble_eq_true rfl) dX2_solveLeft_25 (fun r_1 u9 h => ?_)
        refine z_if_eq 97 F dX2_solveLeft_28 (by decide) (fun c9 => ?_) (fun c9 => ?_)
        · have h := h.1 c9
          exact z_lv [0, 1, 2, 3] rfl (t97 K17 ih17 vt vg x2 x3 h)
        · have h := h.2 c9
          refine z_iload_n F dX2_solveLeft_31 rfl 2 rfl ?_
          refine z_iconst (v := 1) F dX2_solveLeft_32 rfl ?_
          refine z_iload_n F dX2_solveLeft_33 rfl 3 rfl ?_
          refine z_ishl F dX2_solveLeft_34 ?_
          refine z_iconst (v := -1) F dX2_solveLeft_35 rfl ?_
          refine z_ixor F dX2_solveLeft_36 ?_
          refine z_iand F dX2_solveLeft_37 ?_
          refine z_topi (fun x4_2 e9 => ?_)
          have h := h x4_2 e9
          refine z_istore [(4, .int x4_2), (0, .ref (a 0)), (1, .ref (ab 0)), (2, .int x2), (3, .int x3)] F dX2_solveLeft_38 (by decide) rfl ?_
          refine z_aload_n F dX2_solveLeft_40 rfl 1 rfl ?_
          refine z_aload_n F dX2_solveLeft_41 rfl 2 rfl ?_
          refine z_aload_n F dX2_solveLeft_42 rfl 1 rfl ?_
          refine z_get (ci := 2) F iX2 0 rfl rfl 2 (by decide) f4 rfl rfl dX2_solveLeft_43 ?_
          refine z_iload F dX2_solveLeft_46 0 rfl ?_
          refine z_iconst (v := -1) F dX2_solveLeft_48 rfl ?_
          refine z_ixor F dX2_solveLeft_49 ?_
          refine z_iand F dX2_solveLeft_50 ?_
          refine z_callVi (fun u9 => w_Gm_Gr G a ab u9.1 u9.2) F (mX2_loses G a ab vt vg ((Gm_whole vt) &&& (x4_2 ^^^ (-1 : Int32))) _ h) gX2_solveLeft_X2_loses rfl hdX2_loses ⟨rfl, rfl, Nat.le_of_ble_eq_true rfl, Nat.le_of_ble_eq_true rfl, Nat.le_of_ble_eq_true rfl, Nat.le_of_ble_eq_true rfl⟩ 0 rfl rfl [0, 1, 2, 3, 4, 5, 6, 7, 8, 9, 10] [] [0, 1, 2, 3, 4, 5, 6, 7, 8, 9, 10] rfl rfl (by decide) (fun _ => rfl) rfl (Nat.le_of_ble_eq_true rfl) dX2_solveLeft_51 (fun r_3 u9 h => ?_)
          obtain ⟨vt_4, vg_5⟩ := u9
          refine z_w (w' := w_Gm_Gr G a ab vt_4 vg_5) rfl ?_
          refine z_if_eq 61 F dX2_solveLeft_54 (by decide) (fun c9 => ?_) (fun c9 => ?_)
          · have h := h.1 c9
            refine z_aload_n F dX2_solveLeft_61 rfl 1 rfl ?_
            refine z_get (ci := 2) F iX2 0 rfl rfl 0 (by decide) f0 rfl rfl dX2_solveLeft_62 ?_
            refine z_iload F dX2_solveLeft_65 0 rfl ?_
            have h9 := h.1
            have h := h.2
            refine z_iald F 1 rfl h9 dX2_solveLeft_67 ?_
            refine z_ineg F dX2_solveLeft_68 ?_
            exact z_lv [1, 2, 3, 4] rfl (t69 K17 ih17 vt_4 vg_5 x2 x3 (-((Gm_best vt_4) (x4_2).toNatClampNeg)) h)
          · have h := h.2 c9
            refine z_iconst (v := -1) F dX2_solveLeft_57 rfl ?_
            refine z_goto 69 F dX2_solveLeft_58 (by decide) ?_
            exact z_lv [1, 2, 3, 4] rfl (t69 K17 ih17 vt_4 vg_5 x2 x3 (-1 : Int32) h)
  unfold wpX2_solveLeft at h
  refine z_aload_n F dX2_solveLeft_0 rfl 0 rfl ?_
  refine z_get (ci := 2) F iX2 0 rfl rfl 0 (by decide) f0 rfl rfl dX2_solveLeft_1 ?_
  refine z_iload_n F dX2_solveLeft_4 rfl 2 rfl ?_
  refine z_iconst (v := -1) F dX2_solveLeft_5 rfl ?_
  have h9 := h.1
  have h := h.2
  refine z_iast (w_Gm_Gr G a ab (Gm_s_best vt (upd (Gm_best vt) (p2).toNatClampNeg (-1 : Int32))) vg) F 1 rfl h9 rfl dX2_solveLeft_6 ?_
  refine z_aload_n F dX2_solveLeft_7 rfl 0 rfl ?_
  refine z_get (ci := 2) F iX2 0 rfl rfl 1 (by decide) f1 rfl rfl dX2_solveLeft_8 ?_
  refine z_iload_n F dX2_solveLeft_11 rfl 2 rfl ?_
  refine z_bipush (v := -6) F dX2_solveLeft_12 rfl ?_
  have h9 := h.1
  have h := h.2
  refine z_iast (f := (Gm_choice vt)) (w_Gm_Gr G a ab (Gm_s_choice (Gm_s_best vt (upd (Gm_best vt) (p2).toNatClampNeg (-1 : Int32))) (upd (Gm_choice vt) (p2).toNatClampNeg (-6 : Int32))) vg) F 2 rfl h9 rfl dX2_solveLeft_14 ?_
  refine z_iconst (v := 0) F dX2_solveLeft_15 rfl ?_
  refine z_istore_n [(3, .int (0 : Int32)), (0, .ref (a 0)), (1, .ref (ab 0)), (2, .int p2)] F dX2_solveLeft_16 rfl (by decide) rfl ?_
  obtain ⟨n9, h⟩ := h
  exact z_lv [1, 2, 3, 0] rfl (t17 n9 (Gm_s_choice (Gm_s_best vt (upd (Gm_best vt) (p2).toNatClampNeg (-1 : Int32))) (upd (Gm_choice vt) (p2).toNatClampNeg (-6 : Int32))) vg p2 (0 : Int32) h)
abbrev rmX2_solve : Room := { frames := 4, cells := 0, slots := 0, locals := 94 }
set_option maxRecDepth 100000 in
set_option maxHeartbeats 4000000 in
theorem mX2_solve (G : ZG) (a : Nat → Nat) (ab : Nat → Nat) (vt : Gm) (vg : Gr) (p2 : Int32) (Q : Gm → Gr → Prop) (h : wpX2_solve vt vg p2 Q) : ZMv G yX2_solve wsX2_solve rmX2_solve [.ref (a 0), .ref (ab 0), .int p2] (w_Gm_Gr G a ab vt vg) (fun u9 : Gm × Gr => w_Gm_Gr G a ab u9.1 u9.2) (fun u9 => Q u9.1 u9.2) := by
  refine z_ofv (cc := cX2_solve) (N := 4) (lv := [(0, .ref (a 0)), (1, .ref (ab 0)), (2, .int p2)]) (by decide) rfl (Nat.le_of_ble_eq_true rfl) rfl (fun E F hret => ?_)
  have F : ZF E 4 cX2_solve RX2 wsX2_solve rmX2_solve G := F
  have f0 : ZW E (.fieldLink RX2 18 "ColourEcho$Game" "whole" "I") := F.at 1 rfl
  have f1 : ZW E (.fieldLink RX2 9 "ColourEcho$Game" "best" "[I") := F.at 2 rfl
  have f2 : ZW E (.fieldLink RX2 15 "ColourEcho$Game" "choice" "[I") := F.at 3 rfl
  have iX2 : ∀ x ∈ u_ws RX2 TX2 3, x ∈ wsX2_solve := fun _ h => List.mem_cons_of_mem _ (List.mem_append_left _ (List.mem_append_right _ h))
  have t41 : ∀ (K22 : Gm → Gr → Int32 → Int32 → Prop) (ih22 : ∀ (vt : Gm) (vg : Gr) (x2 : Int32) (x3 : Int32), K22 vt vg x2 x3 → Z E 4 0 0 (w_Gm_Gr G a ab vt vg) [(0, .ref (a 0)), (1, .ref (ab 0)), (2, .int x2), (3, .int x3)] 22 []) (vt : Gm) (vg : Gr) (x2 : Int32) (x3 : Int32), wpX2_solve_B41 Q K22 vt vg x2 x3 → Z E 4 0 0 (w_Gm_Gr G a ab vt vg) [(0, .ref (a 0)), (1, .ref (ab 0)), (2, .int x2), (3, .int x3)] 41 [] := by
    intro K22 ih22 vt vg x2 x3 h
    unfold wpX2_solve_B41 at h
    obtain ⟨x3_3, e9⟩ : ∃ z : Int32, z = x3 + 1 := ⟨_, rfl⟩
    have h := h x3_3 e9
    refine z_iinc (v := x3_3) [(3, .int x3_3), (0, .ref (a 0)), (1, .ref (ab 0)), (2, .int x2)] F dX2_solve_41 3 rfl (by rw [e9]; rfl) (by decide) rfl ?_
    refine z_goto 22 F dX2_solve_44 (by decide) ?_
    exact z_lv [1, 2, 3, 0] rfl (ih22 vt vg x2 x3_3 h)
  have t22 : ∀ (n : Nat) (vt : Gm) (vg : Gr) (x2 : Int32) (x3 : Int32), wpX2_solve_L22 Q n vt vg x2 x3 → Z E 4 0 0 (w_Gm_Gr G a ab vt vg) [(0, .ref (a 0)), (1, .ref (ab 0)), (2, .int x2), (3, .int x3)] 22 [] := by
    intro n
    induction n with
    | zero => intro vt vg x2 x3 h; exact h.elim
    | succ n ihQ =>
      have ih22 : ∀ (vt : Gm) (vg : Gr) (x2 : Int32) (x3 : Int32), wpX2_solve_L22 Q n vt vg x2 x3 → Z E 4 0 0 (w_Gm_Gr G a ab vt vg) [(0, .ref (a 0)), (1, .ref (ab 0)), (2, .int x2), (3, .int x3)] 22 [] := ihQ
      intro vt vg x2 x3 h
      have h : wpX2_solve_H22 Q (wpX2_solve_L22 Q n) vt vg x2 x3 := h
      generalize wpX2_solve_L22 Q n = K22 at h ih22
      clear ihQ
      unfold wpX2_solve_H22 at h
      refine z_iload_n F dX2_solve_22 rfl 3 rfl ?_
      refine z_iload_n F dX2_solve_23 rfl 2 rfl ?_
      refine z_icmp_gt 47 F dX2_solve_24 (by decide) (fun c9 => ?_) (fun c9 => ?_)
      · have h := h.1 c9
        exact hret (vt, vg) _ _ h dX2_solve_47
      · have h := h.2 c9
        refine z_iload_n F dX2_solve_27 rfl 3 rfl ?_
        refine z_iload_n F dX2_solve_28 rfl 2 rfl ?_
        refine z_iconst (v := -1) F dX2_solve_29 rfl ?_
        refine z_ixor F dX2_solve_30 ?_
        refine z_iand F dX2_solve_31 ?_
        refine z_if_ne 41 F dX2_solve_32 (by decide) (fun c9 => ?_) (fun c9 => ?_)
        · have h := h.1 c9
          exact z_lv [0, 1, 2, 3] rfl (t41 K22 ih22 vt vg x2 x3 h)
        · have h := h.2 c9
          refine z_aload_n F dX2_solve_35 rfl 0 rfl ?_
          refine z_aload_n F dX2_solve_36 rfl 1 rfl ?_
          refine z_iload_n F dX2_solve_37 rfl 3 rfl ?_
          refine z_callVv (fun u9 => w_Gm_Gr G a ab u9.1 u9.2) F (mX2_solveLeft G a ab vt vg x3 _ h) gX2_solve_X2_solveLeft rfl hdX2_solveLeft ⟨rfl, rfl, Nat.le_of_ble_eq_true rfl, Nat.le_of_ble_eq_true rfl, Nat.le_of_ble_eq_true rfl, Nat.le_of_ble_eq_true rfl⟩ 0 rfl rfl [0, 1, 2, 3, 4, 5, 6, 7, 8, 9, 10] [] [0, 1, 2, 3, 4, 5, 6, 7, 8, 9, 10] rfl rfl (by decide) (fun _ => rfl) rfl (Nat.le_of_ble_eq_true rfl) dX2_solve_38 (fun u9 h => ?_)
          obtain ⟨vt_1, vg_2⟩ := u9
          refine z_w (w' := w_Gm_Gr G a ab vt_1 vg_2) rfl ?_
          exact z_lv [0, 1, 2, 3] rfl (t41 K22 ih22 vt_1 vg_2 x2 x3 h)
  unfold wpX2_solve at h
  refine z_aload_n F dX2_solve_0 rfl 0 rfl ?_
  refine z_iload_n F dX2_solve_1 rfl 2 rfl ?_
  refine z_put (ci := 2) (ty := .int) (w_Gm_Gr G a ab (Gm_s_whole vt p2) vg) F iX2 tyX2 tyX2_ok nmX2 0 rfl rfl 2 (by decide) f0 rfl rfl rfl rfl rfl (Nat.le_of_ble_eq_true rfl) rfl dX2_solve_2 ?_
  refine z_aload_n F dX2_solve_5 rfl 0 rfl ?_
  refine z_get (ci := 2) F iX2 0 rfl rfl 0 (by decide) f1 rfl rfl dX2_solve_6 ?_
  refine z_iconst (v := 0) F dX2_solve_9 rfl ?_
  refine z_iconst (v := 0) F dX2_solve_10 rfl ?_
  have h9 := h.1
  have h := h.2
  refine z_iast (f := (Gm_best vt)) (w_Gm_Gr G a ab (Gm_s_best (Gm_s_whole vt p2) (upd (Gm_best vt) ((0 : Int32)).toNatClampNeg (0 : Int32))) vg) F 1 rfl h9 rfl dX2_solve_11 ?_
  refine z_aload_n F dX2_solve_12 rfl 0 rfl ?_
  refine z_get (ci := 2) F iX2 0 rfl rfl 1 (by decide) f2 rfl rfl dX2_solve_13 ?_
  refine z_iconst (v := 0) F dX2_solve_16 rfl ?_
  refine z_bipush (v := -6) F dX2_solve_17 rfl ?_
  have h9 := h.1
  have h := h.2
  refine z_iast (f := (Gm_choice vt)) (w_Gm_Gr G a ab (Gm_s_choice (Gm_s_best (Gm_s_whole vt p2) (upd (Gm_best vt) ((0 : Int32)).toNatClampNeg (0 : Int32))) (upd (Gm_choice vt) ((0 : Int32)).toNatClampNeg (-6 : Int32))) vg) F 2 rfl h9 rfl dX2_solve_19 ?_
  refine z_iconst (v := 1) F dX2_solve_20 rfl ?_
  refine z_istore_n [(3, .int (1 : Int32)), (0, .ref (a 0)), (1, .ref (ab 0)), (2, .int p2)] F dX2_solve_21 rfl (by decide) rfl ?_
  obtain ⟨n9, h⟩ := h
  exact z_lv [1, 2, 3, 0] rfl (t22 n9 (Gm_s_choice (Gm_s_best (Gm_s_whole vt p2) (upd (Gm_best vt) ((0 : Int32)).toNatClampNeg (0 : Int32))) (upd (Gm_choice vt) ((0 : Int32)).toNatClampNeg (-6 : Int32))) vg p2 (1 : Int32) h)
abbrev rmX2_winner : Room := { frames := 0, cells := 0, slots := 0, locals := 0 }
set_option maxRecDepth 100000 in
set_option maxHeartbeats 4000000 in
theorem mX2_winner (G : ZG) (a : Nat → Nat) (vt : Gm) (Q : Int32 → Gm → Prop) (h : wpX2_winner vt Q) : ZMi G yX2_winner wsX2_winner rmX2_winner [.ref (a 0)] (w_Gm G a vt) (fun vt : Gm => w_Gm G a vt) (Q) := by
  refine z_ofi (cc := cX2_winner) (N := 1) (lv := [(0, .ref (a 0))]) (by decide) rfl (Nat.le_of_ble_eq_true rfl) rfl (fun E F hret => ?_)
  have F : ZF E 1 cX2_winner RX2 wsX2_winner rmX2_winner G := F
  have f0 : ZW E (.fieldLink RX2 9 "ColourEcho$Game" "best" "[I") := F.at 1 rfl
  have f1 : ZW E (.fieldLink RX2 18 "ColourEcho$Game" "whole" "I") := F.at 2 rfl
  have iX2 : ∀ x ∈ u_ws RX2 TX2 3, x ∈ wsX2_winner := fun _ h => List.mem_cons_of_mem _ (List.mem_append_right _ h)
  unfold wpX2_winner at h
  refine z_aload_n F dX2_winner_0 rfl 0 rfl ?_
  refine z_get (ci := 2) F iX2 0 rfl rfl 0 (by decide) f0 rfl rfl dX2_winner_1 ?_
  refine z_aload_n F dX2_winner_4 rfl 0 rfl ?_
  refine z_get (ci := 2) F iX2 0 rfl rfl 2 (by decide) f1 rfl rfl dX2_winner_5 ?_
  have h9 := h.1
  have h := h.2
  refine z_iald F 1 rfl h9 dX2_winner_8 ?_
  refine z_if_ne 15 F dX2_winner_9 (by decide) (fun c9 => ?_) (fun c9 => ?_)
  · have h := h.1 c9
    refine z_aload_n F dX2_winner_15 rfl 0 rfl ?_
    refine z_get (ci := 2) F iX2 0 rfl rfl 0 (by decide) f0 rfl rfl dX2_winner_16 ?_
    refine z_aload_n F dX2_winner_19 rfl 0 rfl ?_
    refine z_get (ci := 2) F iX2 0 rfl rfl 2 (by decide) f1 rfl rfl dX2_winner_20 ?_
    have h9 := h.1
    have h := h.2
    refine z_iald F 1 rfl h9 dX2_winner_23 ?_
    refine z_iconst (v := 1) F dX2_winner_24 rfl ?_
    refine z_icmp_ne 32 F dX2_winner_25 (by decide) (fun c9 => ?_) (fun c9 => ?_)
    · have h := h.1 c9
      refine z_iconst (v := 1) F dX2_winner_32 rfl ?_
      exact hret (1 : Int32) vt _ _ h dX2_winner_33
    · have h := h.2 c9
      refine z_iconst (v := 0) F dX2_winner_28 rfl ?_
      refine z_goto 33 F dX2_winner_29 (by decide) ?_
      exact hret (0 : Int32) vt _ _ h dX2_winner_33
  · have h := h.2 c9
    refine z_bipush (v := -6) F dX2_winner_12 rfl ?_
    exact hret (-6 : Int32) vt _ _ h dX2_winner_14
abbrev rmX2_opening : Room := { frames := 0, cells := 0, slots := 0, locals := 0 }
set_option maxRecDepth 100000 in
set_option maxHeartbeats 4000000 in
theorem mX2_opening (G : ZG) (a : Nat → Nat) (vt : Gm) (Q : Int32 → Gm → Prop) (h : wpX2_opening vt Q) : ZMi G yX2_opening wsX2_opening rmX2_opening [.ref (a 0)] (w_Gm G a vt) (fun vt : Gm => w_Gm G a vt) (Q) := by
  refine z_ofi (cc := cX2_opening) (N := 1) (lv := [(0, .ref (a 0))]) (by decide) rfl (Nat.le_of_ble_eq_true rfl) rfl (fun E F hret => ?_)
  have F : ZF E 1 cX2_opening RX2 wsX2_opening rmX2_opening G := F
  have f0 : ZW E (.fieldLink RX2 15 "ColourEcho$Game" "choice" "[I") := F.at 1 rfl
  have f1 : ZW E (.fieldLink RX2 18 "ColourEcho$Game" "whole" "I") := F.at 2 rfl
  have iX2 : ∀ x ∈ u_ws RX2 TX2 3, x ∈ wsX2_opening := fun _ h => List.mem_cons_of_mem _ (List.mem_append_right _ h)
  unfold wpX2_opening at h
  refine z_aload_n F dX2_opening_0 rfl 0 rfl ?_
  refine z_get (ci := 2) F iX2 0 rfl rfl 1 (by decide) f0 rfl rfl dX2_opening_1 ?_
  refine z_aload_n F dX2_opening_4 rfl 0 rfl ?_
  refine z_get (ci := 2) F iX2 0 rfl rfl 2 (by decide) f1 rfl rfl dX2_opening_5 ?_
  have h9 := h.1
  have h := h.2
  refine z_iald F 2 rfl h9 dX2_opening_8 ?_
  exact hret ((Gm_choice vt) ((Gm_whole vt)).toNatClampNeg) vt _ _ h dX2_opening_9
abbrev rmX4_fillEcho : Room := { frames := 3, cells := 0, slots := 0, locals := 70 }
set_option maxRecDepth 100000 in
set_option maxHeartbeats 4000000 in
theorem mX4_fillEcho (G : ZG) (a : Nat → Nat) (ab : Nat → Nat) (ac : Nat → Nat) (vu : Gu) (vg : Gr) (vc : Co) (Q : Gu → Gr → Co → Prop) (h : wpX4_fillEcho vu vg vc Q) : ZMv G yX4_fillEcho wsX4_fillEcho rmX4_fillEcho [.ref (a 0), .ref (ab 0), .ref (ac 0)] (w_Gu_Gr_Co G a ab ac vu vg vc) (fun u9 : Gu × Gr × Co => w_Gu_Gr_Co G a ab ac u9.1 u9.2.1 u9.2.2) (fun u9 => Q u9.1 u9.2.1 u9.2.2) := by
  refine z_ofv (cc := cX4_fillEcho) (N := 5) (lv := [(0, .ref (a 0)), (1, .ref (ab 0)), (2, .ref (ac 0))]) (by decide) rfl (Nat.le_of_ble_eq_true rfl) rfl (fun E F hret => ?_)
  have F : ZF E 5 cX4_fillEcho RX4 wsX4_fillEcho rmX4_fillEcho G := F
  have f0 : ZW E (.fieldLink RX4 9 "ColourEcho$Guesses" "echo" "[I") := F.at 1 rfl
  have iX4 : ∀ x ∈ u_ws RX4 TX4 4, x ∈ wsX4_fillEcho := fun _ h => List.mem_cons_of_mem _ (List.mem_append_left _ (List.mem_append_left _ (List.mem_append_right _ h)))
  have t27 : ∀ (K2 : Gu → Gr → Co → Int32 → Prop) (ih2 : ∀ (vu : Gu) (vg : Gr) (vc : Co) (x3 : Int32), K2 vu vg vc x3 → Z E 5 0 0 (w_Gu_Gr_Co G a ab ac vu vg vc) [(0, .ref (a 0)), (1, .ref (ab 0)), (2, .ref (ac 0)), (3, .int x3)] 2 []) (n : Nat) (vu : Gu) (vg : Gr) (vc : Co) (x3 : Int32) (x4 : Int32), wpX4_fillEcho_L27 Q K2 n vu vg vc x3 x4 → Z E 5 0 0 (w_Gu_Gr_Co G a ab ac vu vg vc) [(0, .ref (a 0)), (1, .ref (ab 0)), (2, .ref (ac 0)), (3, .int x3), (4, .int x4)] 27 [] := by
    intro K2 ih2 n
    induction n with
    | zero => intro vu vg vc x3 x4 h; exact h.elim
    | succ n ihQ =>
      have ih27 : ∀ (vu : Gu) (vg : Gr) (vc : Co) (x3 : Int32) (x4 : Int32), wpX4_fillEcho_L27 Q K2 n vu vg vc x3 x4 → Z E 5 0 0 (w_Gu_Gr_Co G a ab ac vu vg vc) [(0, .ref (a 0)), (1, .ref (ab 0)), (2, .ref (ac 0)), (3, .int x3), (4, .int x4)] 27 [] := ihQ
      intro vu vg vc x3 x4 h
      have h : wpX4_fillEcho_H27 Q K2 (wpX4_fillEcho_L27 Q K2 n) vu vg vc x3 x4 := h
      generalize wpX4_fillEcho_L27 Q K2 n = K27 at h ih27
      clear ihQ
      unfold wpX4_fillEcho_H27 at h
      refine z_iload F dX4_fillEcho_27 4 rfl ?_
      refine z_bipush (v := 60) F dX4_fillEcho_29 rfl ?_
      refine z_icmp_gt 60 F dX4_fillEcho_31 (by decide) (fun c9 => ?_) (fun c9 => ?_)
      · have h := h.1 c9
        obtain ⟨x3_4, e9⟩ : ∃ z : Int32, z = x3 + 1 := ⟨_, rfl⟩
        have h := h x3_4 e9
        refine z_iinc (v := x3_4) [(3, .int x3_4), (0, .ref (a 0)), (1, .ref (ab 0)), (2, .ref (ac 0)), (4, .int x4)] F dX4_fillEcho_60 3 rfl (by rw [e9]; rfl) (by decide) rfl ?_
        refine z_goto 2 F dX4_fillEcho_63 (by decide) ?_
        exact z_lv [1, 2, 3, 0] rfl (ih2 vu vg vc x3_4 h)
      · have h := h.2 c9
        refine z_aload_n F dX4_fillEcho_34 rfl 0 rfl ?_
        refine z_get (ci := 4) F iX4 0 rfl rfl 0 (by decide) f0 rfl rfl dX4_fillEcho_35 ?_
        refine z_iload_n F dX4_fillEcho_38 rfl 3 rfl ?_
        refine z_iconst (v := 1) F dX4_fillEcho_39 rfl ?_
        refine z_isub F dX4_fillEcho_40 ?_
        refine z_bipush (v := 61) F dX4_fillEcho_41 rfl ?_
        refine z_imul F dX4_fillEcho_43 ?_
        refine z_iload F dX4_fillEcho_44 4 rfl ?_
        refine z_iadd F dX4_fillEcho_46 ?_
        refine z_aload_n F dX4_fillEcho_47 rfl 2 rfl ?_
        refine z_iload F dX4_fillEcho_48 4 rfl ?_
        refine z_callVi (fun u9 => w_Gu_Gr_Co G a ab ac vu vg u9) F (mX0_at G ac vc x4 _ h) gX4_fillEcho_X0_at rfl hdX0_at ⟨rfl, rfl, Nat.le_of_ble_eq_true rfl, Nat.le_of_ble_eq_true rfl, Nat.le_of_ble_eq_true rfl, Nat.le_of_ble_eq_true rfl⟩ 12 rfl rfl [12, 13] [0, 1, 2, 3, 4, 5, 6, 7, 8, 9, 10, 11] [0, 1, 2, 3, 4, 5, 6, 7, 8, 9, 10, 11, 12, 13] rfl rfl (by decide) (fun _ => rfl) rfl (Nat.le_of_ble_eq_true rfl) dX4_fillEcho_50 (fun r_5 vc_6 h => ?_)
        have h9 := h.1
        have h := h.2
        refine z_iast (w_Gu_Gr_Co G a ab ac (Gu_s_echo vu (upd (Gu_echo vu) ((((x3 - (1 : Int32)) * (61 : Int32)) + x4)).toNatClampNeg r_5)) vg vc_6) F 1 rfl h9 rfl dX4_fillEcho_53 ?_
        obtain ⟨x4_7, e9⟩ : ∃ z : Int32, z = x4 + 1 := ⟨_, rfl⟩
        have h := h x4_7 e9
        refine z_iinc (v := x4_7) [(4, .int x4_7), (0, .ref (a 0)), (1, .ref (ab 0)), (2, .ref (ac 0)), (3, .int x3)] F dX4_fillEcho_54 4 rfl (by rw [e9]; rfl) (by decide) rfl ?_
        refine z_goto 27 F dX4_fillEcho_57 (by decide) ?_
        exact z_lv [1, 2, 3, 4, 0] rfl (ih27 (Gu_s_echo vu (upd (Gu_echo vu) ((((x3 - (1 : Int32)) * (61 : Int32)) + x4)).toNatClampNeg r_5)) vg vc_6 x3 x4_7 h)
  have t2 : ∀ (n : Nat) (vu : Gu) (vg : Gr) (vc : Co) (x3 : Int32), wpX4_fillEcho_L2 Q n vu vg vc x3 → Z E 5 0 0 (w_Gu_Gr_Co G a ab ac vu vg vc) [(0, .ref (a 0)), (1, .ref (ab 0)), (2, .ref (ac 0)), (3, .int x3)] 2 [] := by
    intro n
    induction n with
    | zero => intro vu vg vc x3 h; exact h.elim
    | succ n ihQ =>
      have ih2 : ∀ (vu : Gu) (vg : Gr) (vc : Co) (x3 : Int32), wpX4_fillEcho_L2 Q n vu vg vc x3 → Z E 5 0 0 (w_Gu_Gr_Co G a ab ac vu vg vc) [(0, .ref (a 0)), (1, .ref (ab 0)), (2, .ref (ac 0)), (3, .int x3)] 2 [] := ihQ
      intro vu vg vc x3 h
      have h : wpX4_fillEcho_H2 Q (wpX4_fillEcho_L2 Q n) vu vg vc x3 := h
      generalize wpX4_fillEcho_L2 Q n = K2 at h ih2
      clear ihQ
      unfold wpX4_fillEcho_H2 at h
      refine z_iload_n F dX4_fillEcho_2 rfl 3 rfl ?_
      refine z_bipush (v := 9) F dX4_fillEcho_3 rfl ?_
      refine z_icmp_gt 66 F dX4_fillEcho_5 (by decide) (fun c9 => ?_) (fun c9 => ?_)
      · have h := h.1 c9
        exact hret (vu, vg, vc) _ _ h dX4_fillEcho_66
      · have h := h.2 c9
        refine z_aload_n F dX4_fillEcho_8 rfl 2 rfl ?_
        refine z_bipush (v := 10) F dX4_fillEcho_9 rfl ?_
        refine z_iload_n F dX4_fillEcho_11 rfl 3 rfl ?_
        refine z_imul F dX4_fillEcho_12 ?_
        refine z_callVv (fun u9 => w_Gu_Gr_Co G a ab ac vu vg u9) F (mX0_fromNothing G ac vc ((10 : Int32) * x3) _ h) gX4_fillEcho_X0_fromNothing rfl hdX0_fromNothing ⟨rfl, rfl, Nat.le_of_ble_eq_true rfl, Nat.le_of_ble_eq_true rfl, Nat.le_of_ble_eq_true rfl, Nat.le_of_ble_eq_true rfl⟩ 12 rfl rfl [12, 13] [0, 1, 2, 3, 4, 5, 6, 7, 8, 9, 10, 11] [0, 1, 2, 3, 4, 5, 6, 7, 8, 9, 10, 11, 12, 13] rfl rfl (by decide) (fun _ => rfl) rfl (Nat.le_of_ble_eq_true rfl) dX4_fillEcho_13 (fun vc_1 h => ?_)
        refine z_aload_n F dX4_fillEcho_16 rfl 2 rfl ?_
        refine z_aload_n F dX4_fillEcho_17 rfl 1 rfl ?_
        refine z_bipush (v := 60) F dX4_fillEcho_18 rfl ?_
        refine z_iconst (v := 0) F dX4_fillEcho_20 rfl ?_
        refine z_callVv (fun u9 => w_Gu_Gr_Co G a ab ac vu u9.2 u9.1) F (mX0_run G ac ab vc_1 vg (60 : Int32) (0 : Int32) _ h) gX4_fillEcho_X0_run rfl hdX0_run ⟨rfl, rfl, Nat.le_of_ble_eq_true rfl, Nat.le_of_ble_eq_true rfl, Nat.le_of_ble_eq_true rfl, Nat.le_of_ble_eq_true rfl⟩ 12 rfl rfl [12, 13, 4, 5, 6, 7, 8, 9, 10, 11] [0, 1, 2, 3] [0, 1, 2, 3, 6, 7, 8, 9, 10, 11, 12, 13, 4, 5] rfl rfl (by decide) (fun _ => rfl) rfl (Nat.le_of_ble_eq_true rfl) dX4_fillEcho_21 (fun u9 h => ?_)
        obtain ⟨vc_2, vg_3⟩ := u9
        refine z_w (w' := w_Gu_Gr_Co G a ab ac vu vg_3 vc_2) rfl ?_
        refine z_iconst (v := 0) F dX4_fillEcho_24 rfl ?_
        refine z_istore [(4, .int (0 : Int32)), (0, .ref (a 0)), (1, .ref (ab 0)), (2, .ref (ac 0)), (3, .int x3)] F dX4_fillEcho_25 (by decide) rfl ?_
        obtain ⟨n9, h⟩ := h
        exact z_lv [1, 2, 3, 4, 0] rfl (t27 K2 ih2 n9 vu vg_3 vc_2 x3 (0 : Int32) h)
  unfold wpX4_fillEcho at h
  refine z_iconst (v := 1) F dX4_fillEcho_0 rfl ?_
  refine z_istore_n [(3, .int (1 : Int32)), (0, .ref (a 0)), (1, .ref (ab 0)), (2, .ref (ac 0))] F dX4_fillEcho_1 rfl (by decide) rfl ?_
  obtain ⟨n9, h⟩ := h
  exact z_lv [1, 2, 3, 0] rfl (t2 n9 vu vg vc (1 : Int32) h)
abbrev rmX4_seenBy : Room := { frames := 2, cells := 0, slots := 0, locals := 42 }
set_option maxRecDepth 100000 in
set_option maxHeartbeats 4000000 in
theorem mX4_seenBy (G : ZG) (a : Nat → Nat) (vu : Gu) (p1 : Int32) (p2 : Int32) (Q : Int32 → Gu → Prop) (h : wpX4_seenBy vu p1 p2 Q) : ZMi G yX4_seenBy wsX4_seenBy rmX4_seenBy [.ref (a 0), .int p1, .int p2] (w_Gu G a vu) (fun vu : Gu => w_Gu G a vu) (Q) := by
  refine z_ofi (cc := cX4_seenBy) (N := 4) (lv := [(0, .ref (a 0)), (1, .int p1), (2, .int p2)]) (by decide) rfl (Nat.le_of_ble_eq_true rfl) rfl (fun E F hret => ?_)
  have F : ZF E 4 cX4_seenBy RX4 wsX4_seenBy rmX4_seenBy G := F
  have f0 : ZW E (.initialized RX6) := F.at 3 rfl
  have f1 : ZW E (.static yX6_isAhead) := F.at 2 rfl
  have f2 : ZW E (.fieldLink RX4 9 "ColourEcho$Guesses" "echo" "[I") := F.at 1 rfl
  have iX4 : ∀ x ∈ u_ws RX4 TX4 4, x ∈ wsX4_seenBy := fun _ h => List.mem_cons_of_mem _ (List.mem_append_right _ h)
  unfold wpX4_seenBy at h
  refine z_iload_n F dX4_seenBy_0 rfl 2 rfl ?_
  refine z_iload_n F dX4_seenBy_1 rfl 1 rfl ?_
  refine z_bipush (v := 10) F dX4_seenBy_2 rfl ?_
  refine z_idiv F dX4_seenBy_4 (by decide) ?_
  refine z_isub F dX4_seenBy_5 ?_
  refine z_topi (fun x3_1 e9 => ?_)
  have h := h x3_1 e9
  refine z_istore_n [(3, .int x3_1), (0, .ref (a 0)), (1, .int p1), (2, .int p2)] F dX4_seenBy_6 rfl (by decide) rfl ?_
  refine z_iload_n F dX4_seenBy_7 rfl 0 rfl ?_
  refine z_callNi (fun _ => w_Gu G a vu) F (mX6_isAhead G x3_1 _ h) gX4_seenBy_X6_isAhead_n62 (List.mem_of_getElem? (i := 14) rfl) f0 f1 rfl hdX6_isAhead ⟨rfl, rfl, Nat.le_of_ble_eq_true rfl, Nat.le_of_ble_eq_true rfl, Nat.le_of_ble_eq_true rfl, Nat.le_of_ble_eq_true rfl⟩ [] [0, 1, 2, 3] [0, 1, 2, 3] rfl rfl (by decide) (fun _ => rfl) rfl (Nat.le_of_ble_eq_true rfl) dX4_seenBy_8 (fun r_2 u9 h => ?_)
  refine z_if_eq 33 F dX4_seenBy_11 (by decide) (fun c9 => ?_) (fun c9 => ?_)
  · have h := h.1 c9
    refine z_iconst (v := 0) F dX4_seenBy_33 rfl ?_
    exact hret (0 : Int32) vu _ _ h dX4_seenBy_34
  · have h := h.2 c9
    refine z_aload_n F dX4_seenBy_14 rfl 1 rfl ?_
    refine z_get (ci := 4) F iX4 0 rfl rfl 0 (by decide) f2 rfl rfl dX4_seenBy_15 ?_
    refine z_iload_n F dX4_seenBy_18 rfl 2 rfl ?_
    refine z_bipush (v := 10) F dX4_seenBy_19 rfl ?_
    refine z_irem F dX4_seenBy_21 (by decide) ?_
    refine z_iconst (v := 1) F dX4_seenBy_22 rfl ?_
    refine z_isub F dX4_seenBy_23 ?_
    refine z_bipush (v := 61) F dX4_seenBy_24 rfl ?_
    refine z_imul F dX4_seenBy_26 ?_
    refine z_iload_n F dX4_seenBy_27 rfl 0 rfl ?_
    refine z_iadd F dX4_seenBy_28 ?_
    have h9 := h.1
    have h := h.2
    refine z_iald F 1 rfl h9 dX4_seenBy_29 ?_
    refine z_goto 34 F dX4_seenBy_30 (by decide) ?_
    exact hret ((Gu_echo vu) (((((p1 - p1 / (10 : Int32) * (10 : Int32)) - (1 : Int32)) * (61 : Int32)) + x3_1)).toNatClampNeg) vu _ _ h dX4_seenBy_34
abbrev rmX4_fits : Room := { frames := 3, cells := 0, slots := 0, locals := 65 }
set_option maxRecDepth 100000 in
set_option maxHeartbeats 4000000 in
theorem mX4_fits (G : ZG) (a : Nat → Nat) (ab : Nat → Nat) (vu : Gu) (vg : Gr) (p2 : Int32) (Q : Int32 → Gu → Gr → Prop) (h : wpX4_fits vu vg p2 Q) : ZMi G yX4_fits wsX4_fits rmX4_fits [.ref (a 0), .ref (ab 0), .int p2] (w_Gu_Gr G a ab vu vg) (fun u9 : Gu × Gr => w_Gu_Gr G a ab u9.1 u9.2) (fun r u9 => Q r u9.1 u9.2) := by
  refine z_ofz (cc := cX4_fits) (N := 4) (lv := [(0, .ref (a 0)), (1, .ref (ab 0)), (2, .int p2)]) (by decide) rfl (Nat.le_of_ble_eq_true rfl) rfl (fun E F hret => ?_)
  have F : ZF E 4 cX4_fits RX4 wsX4_fits rmX4_fits G := F
  have f0 : ZW E (.fieldLink RX4 47 "ColourEcho$Gorge" "sights" "I") := F.at 1 rfl
  have f1 : ZW E (.fieldLink RX4 52 "ColourEcho$Gorge" "sightDays" "[I") := F.at 2 rfl
  have f2 : ZW E (.fieldLink RX4 59 "ColourEcho$Gorge" "sightAmounts" "[I") := F.at 3 rfl
  have iX3 : ∀ x ∈ u_ws RX3 TX3 13, x ∈ wsX4_fits := fun _ h => List.mem_cons_of_mem _ (List.mem_append_left _ (List.mem_append_right _ h))
  have t2 : ∀ (n : Nat) (vu : Gu) (vg : Gr) (x2 : Int32) (x3 : Int32), wpX4_fits_L2 Q n vu vg x2 x3 → Z E 4 0 0 (w_Gu_Gr G a ab vu vg) [(0, .ref (a 0)), (1, .ref (ab 0)), (2, .int x2), (3, .int x3)] 2 [] := by
    intro n
    induction n with
    | zero => intro vu vg x2 x3 h; exact h.elim
    | succ n ihQ =>
      have ih2 : ∀ (vu : Gu) (vg : Gr) (x2 : Int32) (x3 : Int32), wpX4_fits_L2 Q n vu vg x2 x3 → Z E 4 0 0 (w_Gu_Gr G a ab vu vg) [(0, .ref (a 0)), (1, .ref (ab 0)), (2, .int x2), (3, .int x3)] 2 [] := ihQ
      intro vu vg x2 x3 h
      have h : wpX4_fits_H2 Q (wpX4_fits_L2 Q n) vu vg x2 x3 := h
      generalize wpX4_fits_L2 Q n = K2 at h ih2
      clear ihQ
      unfold wpX4_fits_H2 at h
      refine z_iload_n F dX4_fits_2 rfl 3 rfl ?_
      refine z_aload_n F dX4_fits_3 rfl 1 rfl ?_
      refine z_get (ci := 3) F iX3 4 rfl rfl 7 (by decide) f0 rfl rfl dX4_fits_4 ?_
      refine z_icmp_ge 38 F dX4_fits_7 (by decide) (fun c9 => ?_) (fun c9 => ?_)
      · have h := h.1 c9
        refine z_iconst (v := 1) F dX4_fits_38 rfl ?_
        exact hret (1 : Int32) (vu, vg) _ _ h dX4_fits_39 (by decide)
      · have h := h.2 c9
        refine z_aload_n F dX4_fits_10 rfl 0 rfl ?_
        refine z_iload_n F dX4_fits_11 rfl 2 rfl ?_
        refine z_aload_n F dX4_fits_12 rfl 1 rfl ?_
        refine z_get (ci := 3) F iX3 4 rfl rfl 5 (by decide) f1 rfl rfl dX4_fits_13 ?_
        refine z_iload_n F dX4_fits_16 rfl 3 rfl ?_
        have h9 := h.1
        have h := h.2
        refine z_iald F 10 rfl h9 dX4_fits_17 ?_
        refine z_callVi (fun u9 => w_Gu_Gr G a ab u9 vg) F (mX4_seenBy G a vu x2 ((Gr_sightDays vg) (x3).toNatClampNeg) _ h) gX4_fits_X4_seenBy rfl hdX4_seenBy ⟨rfl, rfl, Nat.le_of_ble_eq_true rfl, Nat.le_of_ble_eq_true rfl, Nat.le_of_ble_eq_true rfl, Nat.le_of_ble_eq_true rfl⟩ 0 rfl rfl [0, 1, 2, 3] [4, 5, 6, 7, 8, 9, 10, 11] [8, 9, 10, 11, 0, 1, 2, 3, 4, 5, 6, 7] rfl rfl (by decide) (fun _ => rfl) rfl (Nat.le_of_ble_eq_true rfl) dX4_fits_18 (fun r_1 vu_2 h => ?_)
        refine z_aload_n F dX4_fits_21 rfl 1 rfl ?_
        refine z_get (ci := 3) F iX3 4 rfl rfl 6 (by decide) f2 rfl rfl dX4_fits_22 ?_
        refine z_iload_n F dX4_fits_25 rfl 3 rfl ?_
        have h9 := h.1
        have h := h.2
        refine z_iald F 11 rfl h9 dX4_fits_26 ?_
        refine z_icmp_eq 32 F dX4_fits_27 (by decide) (fun c9 => ?_) (fun c9 => ?_)
        · have h := h.1 c9
          obtain ⟨x3_3, e9⟩ : ∃ z : Int32, z = x3 + 1 := ⟨_, rfl⟩
          have h := h x3_3 e9
          refine z_iinc (v := x3_3) [(3, .int x3_3), (0, .ref (a 0)), (1, .ref (ab 0)), (2, .int x2)] F dX4_fits_32 3 rfl (by rw [e9]; rfl) (by decide) rfl ?_
          refine z_goto 2 F dX4_fits_35 (by decide) ?_
          exact z_lv [1, 2, 3, 0] rfl (ih2 vu_2 vg x2 x3_3 h)
        · have h := h.2 c9
          refine z_iconst (v := 0) F dX4_fits_30 rfl ?_
          exact hret (0 : Int32) (vu_2, vg) _ _ h dX4_fits_31 (by decide)
  unfold wpX4_fits at h
  refine z_iconst (v := 0) F dX4_fits_0 rfl ?_
  refine z_istore_n [(3, .int (0 : Int32)), (0, .ref (a 0)), (1, .ref (ab 0)), (2, .int p2)] F dX4_fits_1 rfl (by decide) rfl ?_
  obtain ⟨n9, h⟩ := h
  exact z_lv [1, 2, 3, 0] rfl (t2 n9 vu vg p2 (0 : Int32) h)
abbrev rmX4_gather : Room := { frames := 4, cells := 0, slots := 0, locals := 94 }
set_option maxRecDepth 100000 in
set_option maxHeartbeats 4000000 in
theorem mX4_gather (G : ZG) (a : Nat → Nat) (ab : Nat → Nat) (ac : Nat → Nat) (vu : Gu) (vg : Gr) (vc : Co) (Q : Gu → Gr → Co → Prop) (h : wpX4_gather vu vg vc Q) : ZMv G yX4_gather wsX4_gather rmX4_gather [.ref (a 0), .ref (ab 0), .ref (ac 0)] (w_Gu_Gr_Co G a ab ac vu vg vc) (fun u9 : Gu × Gr × Co => w_Gu_Gr_Co G a ab ac u9.1 u9.2.1 u9.2.2) (fun u9 => Q u9.1 u9.2.1 u9.2.2) := by
  refine z_ofv (cc := cX4_gather) (N := 5) (lv := [(0, .ref (a 0)), (1, .ref (ab 0)), (2, .ref (ac 0))]) (by decide) rfl (Nat.le_of_ble_eq_true rfl) rfl (fun E F hret => ?_)
  have F : ZF E 5 cX4_gather RX4 wsX4_gather rmX4_gather G := F
  have f0 : ZW E (.fieldLink RX4 21 "ColourEcho$Guesses" "count" "I") := F.at 1 rfl
  have f1 : ZW E (.fieldLink RX4 15 "ColourEcho$Guesses" "fitting" "[I") := F.at 2 rfl
  have iX4 : ∀ x ∈ u_ws RX4 TX4 4, x ∈ wsX4_gather := fun _ h => List.mem_cons_of_mem _ (List.mem_append_left _ (List.mem_append_left _ (List.mem_append_right _ h)))
  have t70 : ∀ (K13 : Gu → Gr → Co → Int32 → Prop) (K22 : Gu → Gr → Co → Int32 → Int32 → Prop) (ih13 : ∀ (vu : Gu) (vg : Gr) (vc : Co) (x3 : Int32), K13 vu vg vc x3 → Z E 5 0 0 (w_Gu_Gr_Co G a ab ac vu vg vc) [(0, .ref (a 0)), (1, .ref (ab 0)), (3, .int x3)] 13 []) (ih22 : ∀ (vu : Gu) (vg : Gr) (vc : Co) (x3 : Int32) (x4 : Int32), K22 vu vg vc x3 x4 → Z E 5 0 0 (w_Gu_Gr_Co G a ab ac vu vg vc) [(0, .ref (a 0)), (1, .ref (ab 0)), (3, .int x3), (4, .int x4)] 22 []) (vu : Gu) (vg : Gr) (vc : Co) (x3 : Int32) (x4 : Int32), wpX4_gather_B70 Q K13 K22 vu vg vc x3 x4 → Z E 5 0 0 (w_Gu_Gr_Co G a ab ac vu vg vc) [(0, .ref (a 0)), (1, .ref (ab 0)), (3, .int x3), (4, .int x4)] 70 [] := by
    intro K13 K22 ih13 ih22 vu vg vc x3 x4 h
    unfold wpX4_gather_B70 at h
    obtain ⟨x4_8, e9⟩ : ∃ z : Int32, z = x4 + 1 := ⟨_, rfl⟩
    have h := h x4_8 e9
    refine z_iinc (v := x4_8) [(4, .int x4_8), (0, .ref (a 0)), (1, .ref (ab 0)), (3, .int x3)] F dX4_gather_70 3 rfl (by rw [e9]; rfl) (by decide) rfl ?_
    refine z_goto 22 F dX4_gather_73 (by decide) ?_
    exact z_lv [1, 2, 3, 0] rfl (ih22 vu vg vc x3 x4_8 h)
  have t22 : ∀ (K13 : Gu → Gr → Co → Int32 → Prop) (ih13 : ∀ (vu : Gu) (vg : Gr) (vc : Co) (x3 : Int32), K13 vu vg vc x3 → Z E 5 0 0 (w_Gu_Gr_Co G a ab ac vu vg vc) [(0, .ref (a 0)), (1, .ref (ab 0)), (3, .int x3)] 13 []) (n : Nat) (vu : Gu) (vg : Gr) (vc : Co) (x3 : Int32) (x4 : Int32), wpX4_gather_L22 Q K13 n vu vg vc x3 x4 → Z E 5 0 0 (w_Gu_Gr_Co G a ab ac vu vg vc) [(0, .ref (a 0)), (1, .ref (ab 0)), (3, .int x3), (4, .int x4)] 22 [] := by
    intro K13 ih13 n
    induction n with
    | zero => intro vu vg vc x3 x4 h; exact h.elim
    | succ n ihQ =>
      have ih22 : ∀ (vu : Gu) (vg : Gr) (vc : Co) (x3 : Int32) (x4 : Int32), wpX4_gather_L22 Q K13 n vu vg vc x3 x4 → Z E 5 0 0 (w_Gu_Gr_Co G a ab ac vu vg vc) [(0, .ref (a 0)), (1, .ref (ab 0)), (3, .int x3), (4, .int x4)] 22 [] := ihQ
      intro vu vg vc x3 x4 h
      have h : wpX4_gather_H22 Q K13 (wpX4_gather_L22 Q K13 n) vu vg vc x3 x4 := h
      generalize wpX4_gather_L22 Q K13 n = K22 at h ih22
      clear ihQ
      unfold wpX4_gather_H22 at h
      refine z_iload F dX4_gather_22 3 rfl ?_
      refine z_bipush (v := 9) F dX4_gather_24 rfl ?_
      refine z_icmp_gt 76 F dX4_gather_26 (by decide) (fun c9 => ?_) (fun c9 => ?_)
      · have h := h.1 c9
        obtain ⟨x3_4, e9⟩ : ∃ z : Int32, z = x3 + 1 := ⟨_, rfl⟩
        have h := h x3_4 e9
        refine z_iinc (v := x3_4) [(3, .int x3_4), (0, .ref (a 0)), (1, .ref (ab 0)), (4, .int x4)] F dX4_gather_76 2 rfl (by rw [e9]; rfl) (by decide) rfl ?_
        refine z_goto 13 F dX4_gather_79 (by decide) ?_
        exact z_lv [1, 2, 0] rfl (ih13 vu vg vc x3_4 h)
      · have h := h.2 c9
        refine z_aload_n F dX4_gather_29 rfl 0 rfl ?_
        refine z_aload_n F dX4_gather_30 rfl 1 rfl ?_
        refine z_bipush (v := 10) F dX4_gather_31 rfl ?_
        refine z_iload_n F dX4_gather_33 rfl 2 rfl ?_
        refine z_imul F dX4_gather_34 ?_
        refine z_iload F dX4_gather_35 3 rfl ?_
        refine z_iadd F dX4_gather_37 ?_
        refine z_callVi (fun u9 => w_Gu_Gr_Co G a ab ac u9.1 u9.2 vc) F (mX4_fits G a ab vu vg (((10 : Int32) * x3) + x4) _ h) gX4_gather_X4_fits rfl hdX4_fits ⟨rfl, rfl, Nat.le_of_ble_eq_true rfl, Nat.le_of_ble_eq_true rfl, Nat.le_of_ble_eq_true rfl, Nat.le_of_ble_eq_true rfl⟩ 0 rfl rfl [0, 1, 2, 3, 4, 5, 6, 7, 8, 9, 10, 11] [12, 13] [2, 3, 4, 5, 6, 7, 8, 9, 10, 11, 12, 13, 0, 1] rfl rfl (by decide) (fun _ => rfl) rfl (Nat.le_of_ble_eq_true rfl) dX4_gather_38 (fun r_5 u9 h => ?_)
        obtain ⟨vu_6, vg_7⟩ := u9
        refine z_w (w' := w_Gu_Gr_Co G a ab ac vu_6 vg_7 vc) rfl ?_
        refine z_if_eq 70 F dX4_gather_41 (by decide) (fun c9 => ?_) (fun c9 => ?_)
        · have h := h.1 c9
          exact z_lv [0, 1, 2, 3] rfl (t70 K13 K22 ih13 ih22 vu_6 vg_7 vc x3 x4 h)
        · have h := h.2 c9
          refine z_aload_n F dX4_gather_44 rfl 0 rfl ?_
          refine z_get (ci := 4) F iX4 0 rfl rfl 1 (by decide) f1 rfl rfl dX4_gather_45 ?_
          refine z_aload_n F dX4_gather_48 rfl 0 rfl ?_
          refine z_get (ci := 4) F iX4 0 rfl rfl 3 (by decide) f0 rfl rfl dX4_gather_49 ?_
          refine z_bipush (v := 10) F dX4_gather_52 rfl ?_
          refine z_iload_n F dX4_gather_54 rfl 2 rfl ?_
          refine z_imul F dX4_gather_55 ?_
          refine z_iload F dX4_gather_56 3 rfl ?_
          refine z_iadd F dX4_gather_58 ?_
          have h9 := h.1
          have h := h.2
          refine z_iast (w_Gu_Gr_Co G a ab ac (Gu_s_fitting vu_6 (upd (Gu_fitting vu_6) ((Gu_count vu_6)).toNatClampNeg (((10 : Int32) * x3) + x4))) vg_7 vc) F 2 rfl h9 rfl dX4_gather_59 ?_
          refine z_aload_n F dX4_gather_60 rfl 0 rfl ?_
          refine z_dup F dX4_gather_61 rfl ?_
          refine z_get (ci := 4) (v := .int (Gu_count vu_6)) F iX4 0 rfl rfl 3 (by decide) f0 rfl rfl dX4_gather_62 ?_
          refine z_iconst (v := 1) F dX4_gather_65 rfl ?_
          refine z_iadd F dX4_gather_66 ?_
          refine z_put (ci := 4) (ty := .int) (w_Gu_Gr_Co G a ab ac (Gu_s_count (Gu_s_fitting vu_6 (upd (Gu_fitting vu_6) ((Gu_count vu_6)).toNatClampNeg (((10 : Int32) * x3) + x4))) ((Gu_count vu_6) + (1 : Int32))) vg_7 vc) F iX4 tyX4 tyX4_ok nmX4 0 rfl rfl 3 (by decide) f0 rfl rfl rfl rfl rfl (Nat.le_of_ble_eq_true rfl) rfl dX4_gather_67 ?_
          exact z_lv [0, 1, 2, 3] rfl (t70 K13 K22 ih13 ih22 (Gu_s_count (Gu_s_fitting vu_6 (upd (Gu_fitting vu_6) ((Gu_count vu_6)).toNatClampNeg (((10 : Int32) * x3) + x4))) ((Gu_count vu_6) + (1 : Int32))) vg_7 vc x3 x4 h)
  have t13 : ∀ (n : Nat) (vu : Gu) (vg : Gr) (vc : Co) (x3 : Int32), wpX4_gather_L13 Q n vu vg vc x3 → Z E 5 0 0 (w_Gu_Gr_Co G a ab ac vu vg vc) [(0, .ref (a 0)), (1, .ref (ab 0)), (3, .int x3)] 13 [] := by
    intro n
    induction n with
    | zero => intro vu vg vc x3 h; exact h.elim
    | succ n ihQ =>
      have ih13 : ∀ (vu : Gu) (vg : Gr) (vc : Co) (x3 : Int32), wpX4_gather_L13 Q n vu vg vc x3 → Z E 5 0 0 (w_Gu_Gr_Co G a ab ac vu vg vc) [(0, .ref (a 0)), (1, .ref (ab 0)), (3, .int x3)] 13 [] := ihQ
      intro vu vg vc x3 h
      have h : wpX4_gather_H13 Q (wpX4_gather_L13 Q n) vu vg vc x3 := h
      generalize wpX4_gather_L13 Q n = K13 at h ih13
      clear ihQ
      unfold wpX4_gather_H13 at h
      refine z_iload_n F dX4_gather_13 rfl 2 rfl ?_
      refine z_bipush (v := 10) F dX4_gather_14 rfl ?_
      refine z_icmp_ge 82 F dX4_gather_16 (by decide) (fun c9 => ?_) (fun c9 => ?_)
      · have h := h.1 c9
        exact hret (vu, vg, vc) _ _ h dX4_gather_82
      · have h := h.2 c9
        refine z_iconst (v := 1) F dX4_gather_19 rfl ?_
        refine z_istore [(4, .int (1 : Int32)), (0, .ref (a 0)), (1, .ref (ab 0)), (3, .int x3)] F dX4_gather_20 (by decide) rfl ?_
        obtain ⟨n9, h⟩ := h
        exact z_lv [1, 2, 3, 0] rfl (t22 K13 ih13 n9 vu vg vc x3 (1 : Int32) h)
  unfold wpX4_gather at h
  refine z_aload_n F dX4_gather_0 rfl 0 rfl ?_
  refine z_aload_n F dX4_gather_1 rfl 1 rfl ?_
  refine z_aload_n F dX4_gather_2 rfl 2 rfl ?_
  refine z_callVv (fun u9 => w_Gu_Gr_Co G a ab ac u9.1 u9.2.1 u9.2.2) F (mX4_fillEcho G a ab ac vu vg vc _ h) gX4_gather_X4_fillEcho rfl hdX4_fillEcho ⟨rfl, rfl, Nat.le_of_ble_eq_true rfl, Nat.le_of_ble_eq_true rfl, Nat.le_of_ble_eq_true rfl, Nat.le_of_ble_eq_true rfl⟩ 0 rfl rfl [0, 1, 2, 3, 4, 5, 6, 7, 8, 9, 10, 11, 12, 13] [] [0, 1, 2, 3, 4, 5, 6, 7, 8, 9, 10, 11, 12, 13] rfl rfl (by decide) (fun _ => rfl) rfl (Nat.le_of_ble_eq_true rfl) dX4_gather_3 (fun u9 h => ?_)
  obtain ⟨vu_1, vg_2, vc_3⟩ := u9
  refine z_w (w' := w_Gu_Gr_Co G a ab ac vu_1 vg_2 vc_3) rfl ?_
  refine z_aload_n F dX4_gather_6 rfl 0 rfl ?_
  refine z_iconst (v := 0) F dX4_gather_7 rfl ?_
  refine z_put (ci := 4) (ty := .int) (w_Gu_Gr_Co G a ab ac (Gu_s_count vu_1 (0 : Int32)) vg_2 vc_3) F iX4 tyX4 tyX4_ok nmX4 0 rfl rfl 3 (by decide) f0 rfl rfl rfl rfl rfl (Nat.le_of_ble_eq_true rfl) rfl dX4_gather_8 ?_
  refine z_iconst (v := 0) F dX4_gather_11 rfl ?_
  refine z_istore_n [(3, .int (0 : Int32)), (0, .ref (a 0)), (1, .ref (ab 0)), (2, .ref (ac 0))] F dX4_gather_12 rfl (by decide) rfl ?_
  obtain ⟨n9, h⟩ := h
  exact z_lv [1, 2, 0] rfl (t13 n9 (Gu_s_count vu_1 (0 : Int32)) vg_2 vc_3 (0 : Int32) h)
abbrev rmX4_mostLeft : Room := { frames := 3, cells := 0, slots := 0, locals := 65 }
set_option maxRecDepth 100000 in
set_option maxHeartbeats 4000000 in
theorem mX4_mostLeft (G : ZG) (a : Nat → Nat) (vu : Gu) (p1 : Int32) (Q : Int32 → Gu → Prop) (h : wpX4_mostLeft vu p1 Q) : ZMi G yX4_mostLeft wsX4_mostLeft rmX4_mostLeft [.ref (a 0), .int p1] (w_Gu G a vu) (fun vu : Gu => w_Gu G a vu) (Q) := by
  refine z_ofi (cc := cX4_mostLeft) (N := 5) (lv := [(0, .ref (a 0)), (1, .int p1)]) (by decide) rfl (Nat.le_of_ble_eq_true rfl) rfl (fun E F hret => ?_)
  have F : ZF E 5 cX4_mostLeft RX4 wsX4_mostLeft rmX4_mostLeft G := F
  have f0 : ZW E (.fieldLink RX4 21 "ColourEcho$Guesses" "count" "I") := F.at 1 rfl
  have f1 : ZW E (.fieldLink RX4 15 "ColourEcho$Guesses" "fitting" "[I") := F.at 2 rfl
  have f2 : ZW E (.initialized RX6) := F.at 15 rfl
  have f3 : ZW E (.static yX6_isAmount) := F.at 20 rfl
  have f4 : ZW E (.fieldLink RX4 18 "ColourEcho$Guesses" "tally" "[I") := F.at 3 rfl
  have f5 : ZW E (.methodLink RX4 69 Lib.Math.max.name) := F.at 4 rfl
  have f6 : ZW E (.static Lib.Math.max.name) := F.at 5 rfl
  have f7 : ZW E (.initialized "java/lang/Math") := F.at 6 rfl
  have f8 : ZW E (.code Lib.Math.max.name Lib.Math.max.code 2 (some .int)) := F.at 7 rfl
  have iX4 : ∀ x ∈ u_ws RX4 TX4 4, x ∈ wsX4_mostLeft := fun _ h => List.mem_cons_of_mem _ (List.mem_append_right _ h)
  have t56 : ∀ (K4 : Gu → Int32 → Int32 → Int32 → Prop) (ih4 : ∀ (vu : Gu) (x1 : Int32) (x2 : Int32) (x3 : Int32), K4 vu x1 x2 x3 → Z E 5 0 0 (w_Gu G a vu) [(0, .ref (a 0)), (1, .int x1), (2, .int x2), (3, .int x3)] 4 []) (vu : Gu) (x1 : Int32) (x2 : Int32) (x3 : Int32), wpX4_mostLeft_B56 Q K4 vu x1 x2 x3 → Z E 5 0 0 (w_Gu G a vu) [(0, .ref (a 0)), (1, .int x1), (2, .int x2), (3, .int x3)] 56 [] := by
    intro K4 ih4 vu x1 x2 x3 h
    unfold wpX4_mostLeft_B56 at h
    obtain ⟨x3_8, e9⟩ : ∃ z : Int32, z = x3 + 1 := ⟨_, rfl⟩
    have h := h x3_8 e9
    refine z_iinc (v := x3_8) [(3, .int x3_8), (0, .ref (a 0)), (1, .int x1), (2, .int x2)] F dX4_mostLeft_56 3 rfl (by rw [e9]; rfl) (by decide) rfl ?_
    refine z_goto 4 F dX4_mostLeft_59 (by decide) ?_
    exact z_lv [1, 2, 3, 0] rfl (ih4 vu x1 x2 x3_8 h)
  have t101 : ∀ (K64 : Gu → Int32 → Int32 → Int32 → Prop) (ih64 : ∀ (vu : Gu) (x1 : Int32) (x2 : Int32) (x3 : Int32), K64 vu x1 x2 x3 → Z E 5 0 0 (w_Gu G a vu) [(0, .ref (a 0)), (1, .int x1), (2, .int x2), (3, .int x3)] 64 []) (vu : Gu) (x1 : Int32) (x2 : Int32) (x3 : Int32), wpX4_mostLeft_B101 Q K64 vu x1 x2 x3 → Z E 5 0 0 (w_Gu G a vu) [(0, .ref (a 0)), (1, .int x1), (2, .int x2), (3, .int x3)] 101 [] := by
    intro K64 ih64 vu x1 x2 x3 h
    unfold wpX4_mostLeft_B101 at h
    obtain ⟨x3_9, e9⟩ : ∃ z : Int32, z = x3 + 1 := ⟨_, rfl⟩
    have h := h x3_9 e9
    refine z_iinc (v := x3_9) [(3, .int x3_9), (0, .ref (a 0)), (1, .int x1), (2, .int x2)] F dX4_mostLeft_101 3 rfl (by rw [e9]; rfl) (by decide) rfl ?_
    refine z_goto 64 F dX4_mostLeft_104 (by decide) ?_
    exact z_lv [1, 2, 3, 0] rfl (ih64 vu x1 x2 x3_9 h)
  have t64 : ∀ (n : Nat) (vu : Gu) (x1 : Int32) (x2 : Int32) (x3 : Int32), wpX4_mostLeft_L64 Q n vu x1 x2 x3 → Z E 5 0 0 (w_Gu G a vu) [(0, .ref (a 0)), (1, .int x1), (2, .int x2), (3, .int x3)] 64 [] := by
    intro n
    induction n with
    | zero => intro vu x1 x2 x3 h; exact h.elim
    | succ n ihQ =>
      have ih64 : ∀ (vu : Gu) (x1 : Int32) (x2 : Int32) (x3 : Int32), wpX4_mostLeft_L64 Q n vu x1 x2 x3 → Z E 5 0 0 (w_Gu G a vu) [(0, .ref (a 0)), (1, .int x1), (2, .int x2), (3, .int x3)] 64 [] := ihQ
      intro vu x1 x2 x3 h
      have h : wpX4_mostLeft_H64 Q (wpX4_mostLeft_L64 Q n) vu x1 x2 x3 := h
      generalize wpX4_mostLeft_L64 Q n = K64 at h ih64
      clear ihQ
      unfold wpX4_mostLeft_H64 at h
      refine z_iload_n F dX4_mostLeft_64 rfl 3 rfl ?_
      refine z_aload_n F dX4_mostLeft_65 rfl 0 rfl ?_
      refine z_get (ci := 4) F iX4 0 rfl rfl 3 (by decide) f0 rfl rfl dX4_mostLeft_66 ?_
      refine z_icmp_ge 107 F dX4_mostLeft_69 (by decide) (fun c9 => ?_) (fun c9 => ?_)
      · have h := h.1 c9
        refine z_iload_n F dX4_mostLeft_107 rfl 2 rfl ?_
        exact hret x2 vu _ _ h dX4_mostLeft_108
      · have h := h.2 c9
        refine z_aload_n F dX4_mostLeft_72 rfl 0 rfl ?_
        refine z_aload_n F dX4_mostLeft_73 rfl 0 rfl ?_
        refine z_get (ci := 4) F iX4 0 rfl rfl 1 (by decide) f1 rfl rfl dX4_mostLeft_74 ?_
        refine z_iload_n F dX4_mostLeft_77 rfl 3 rfl ?_
        have h9 := h.1
        have h := h.2
        refine z_iald F 2 rfl h9 dX4_mostLeft_78 ?_
        refine z_iload_n F dX4_mostLeft_79 rfl 1 rfl ?_
        refine z_callVi (fun u9 => w_Gu G a u9) F (mX4_seenBy G a vu ((Gu_fitting vu) (x3).toNatClampNeg) x1 _ h) gX4_mostLeft_X4_seenBy rfl hdX4_seenBy ⟨rfl, rfl, Nat.le_of_ble_eq_true rfl, Nat.le_of_ble_eq_true rfl, Nat.le_of_ble_eq_true rfl, Nat.le_of_ble_eq_true rfl⟩ 0 rfl rfl [0, 1, 2, 3] [] [0, 1, 2, 3] rfl rfl (by decide) (fun _ => rfl) rfl (Nat.le_of_ble_eq_true rfl) dX4_mostLeft_80 (fun r_5 vu_6 h => ?_)
        refine z_istore [(4, .int r_5), (0, .ref (a 0)), (1, .int x1), (2, .int x2), (3, .int x3)] F dX4_mostLeft_83 (by decide) rfl ?_
        refine z_iload F dX4_mostLeft_85 0 rfl ?_
        refine z_callNi (fun _ => w_Gu G a vu_6) F (mX6_isAmount G r_5 _ h) gX4_mostLeft_X6_isAmount_n66 (List.mem_of_getElem? (i := 15) rfl) f2 f3 rfl hdX6_isAmount ⟨rfl, rfl, Nat.le_of_ble_eq_true rfl, Nat.le_of_ble_eq_true rfl, Nat.le_of_ble_eq_true rfl, Nat.le_of_ble_eq_true rfl⟩ [] [0, 1, 2, 3] [0, 1, 2, 3] rfl rfl (by decide) (fun _ => rfl) rfl (Nat.le_of_ble_eq_true rfl) dX4_mostLeft_87 (fun r_7 u9 h => ?_)
        refine z_if_eq 101 F dX4_mostLeft_90 (by decide) (fun c9 => ?_) (fun c9 => ?_)
        · have h := h.1 c9
          exact z_lv [1, 2, 3, 4] rfl (t101 K64 ih64 vu_6 x1 x2 x3 h)
        · have h := h.2 c9
          refine z_aload_n F dX4_mostLeft_93 rfl 1 rfl ?_
          refine z_get (ci := 4) F iX4 0 rfl rfl 2 (by decide) f4 rfl rfl dX4_mostLeft_94 ?_
          refine z_iload F dX4_mostLeft_97 0 rfl ?_
          refine z_iconst (v := 0) F dX4_mostLeft_99 rfl ?_
          have h9 := h.1
          have h := h.2
          refine z_iast (w_Gu G a (Gu_s_tally vu_6 (upd (Gu_tally vu_6) (r_5).toNatClampNeg (0 : Int32)))) F 3 rfl h9 rfl dX4_mostLeft_100 ?_
          exact z_lv [1, 2, 3, 4] rfl (t101 K64 ih64 (Gu_s_tally vu_6 (upd (Gu_tally vu_6) (r_5).toNatClampNeg (0 : Int32))) x1 x2 x3 h)
  have t4 : ∀ (n : Nat) (vu : Gu) (x1 : Int32) (x2 : Int32) (x3 : Int32), wpX4_mostLeft_L4 Q n vu x1 x2 x3 → Z E 5 0 0 (w_Gu G a vu) [(0, .ref (a 0)), (1, .int x1), (2, .int x2), (3, .int x3)] 4 [] := by
    intro n
    induction n with
    | zero => intro vu x1 x2 x3 h; exact h.elim
    | succ n ihQ =>
      have ih4 : ∀ (vu : Gu) (x1 : Int32) (x2 : Int32) (x3 : Int32), wpX4_mostLeft_L4 Q n vu x1 x2 x3 → Z E 5 0 0 (w_Gu G a vu) [(0, .ref (a 0)), (1, .int x1), (2, .int x2), (3, .int x3)] 4 [] := ihQ
      intro vu x1 x2 x3 h
      have h : wpX4_mostLeft_H4 Q (wpX4_mostLeft_L4 Q n) vu x1 x2 x3 := h
      generalize wpX4_mostLeft_L4 Q n = K4 at h ih4
      clear ihQ
      unfold wpX4_mostLeft_H4 at h
      refine z_iload_n F dX4_mostLeft_4 rfl 3 rfl ?_
      refine z_aload_n F dX4_mostLeft_5 rfl 0 rfl ?_
      refine z_get (ci := 4) F iX4 0 rfl rfl 3 (by decide) f0 rfl rfl dX4_mostLeft_6 ?_
      refine z_icmp_ge 62 F dX4_mostLeft_9 (by decide) (fun c9 => ?_) (fun c9 => ?_)
      · have h := h.1 c9
        refine z_iconst (v := 0) F dX4_mostLeft_62 rfl ?_
        refine z_istore_n [(3, .int (0 : Int32)), (0, .ref (a 0)), (1, .int x1), (2, .int x2)] F dX4_mostLeft_63 rfl (by decide) rfl ?_
        obtain ⟨n9, h⟩ := h
        exact z_lv [1, 2, 3, 0] rfl (t64 n9 vu x1 x2 (0 : Int32) h)
      · have h := h.2 c9
        refine z_aload_n F dX4_mostLeft_12 rfl 0 rfl ?_
        refine z_aload_n F dX4_mostLeft_13 rfl 0 rfl ?_
        refine z_get (ci := 4) F iX4 0 rfl rfl 1 (by decide) f1 rfl rfl dX4_mostLeft_14 ?_
        refine z_iload_n F dX4_mostLeft_17 rfl 3 rfl ?_
        have h9 := h.1
        have h := h.2
        refine z_iald F 2 rfl h9 dX4_mostLeft_18 ?_
        refine z_iload_n F dX4_mostLeft_19 rfl 1 rfl ?_
        refine z_callVi (fun u9 => w_Gu G a u9) F (mX4_seenBy G a vu ((Gu_fitting vu) (x3).toNatClampNeg) x1 _ h) gX4_mostLeft_X4_seenBy rfl hdX4_seenBy ⟨rfl, rfl, Nat.le_of_ble_eq_true rfl, Nat.le_of_ble_eq_true rfl, Nat.le_of_ble_eq_true rfl, Nat.le_of_ble_eq_true rfl⟩ 0 rfl rfl [0, 1, 2, 3] [] [0, 1, 2, 3] rfl rfl (by decide) (fun _ => rfl) rfl (Nat.le_of_ble_eq_true rfl) dX4_mostLeft_20 (fun r_1 vu_2 h => ?_)
        refine z_istore [(4, .int r_1), (0, .ref (a 0)), (1, .int x1), (2, .int x2), (3, .int x3)] F dX4_mostLeft_23 (by decide) rfl ?_
        refine z_iload F dX4_mostLeft_25 0 rfl ?_
        refine z_callNi (fun _ => w_Gu G a vu_2) F (mX6_isAmount G r_1 _ h) gX4_mostLeft_X6_isAmount_n66 (List.mem_of_getElem? (i := 15) rfl) f2 f3 rfl hdX6_isAmount ⟨rfl, rfl, Nat.le_of_ble_eq_true rfl, Nat.le_of_ble_eq_true rfl, Nat.le_of_ble_eq_true rfl, Nat.le_of_ble_eq_true rfl⟩ [] [0, 1, 2, 3] [0, 1, 2, 3] rfl rfl (by decide) (fun _ => rfl) rfl (Nat.le_of_ble_eq_true rfl) dX4_mostLeft_27 (fun r_3 u9 h => ?_)
        refine z_if_eq 56 F dX4_mostLeft_30 (by decide) (fun c9 => ?_) (fun c9 => ?_)
        · have h := h.1 c9
          exact z_lv [1, 2, 3, 4] rfl (t56 K4 ih4 vu_2 x1 x2 x3 h)
        · have h := h.2 c9
          refine z_aload_n F dX4_mostLeft_33 rfl 1 rfl ?_
          refine z_get (ci := 4) F iX4 0 rfl rfl 2 (by decide) f4 rfl rfl dX4_mostLeft_34 ?_
          refine z_iload F dX4_mostLeft_37 0 rfl ?_
          refine z_dup2 F dX4_mostLeft_39 rfl rfl ?_
          have h9 := h.1
          have h := h.2
          refine z_iald F 3 rfl h9 dX4_mostLeft_40 ?_
          refine z_iconst (v := 1) F dX4_mostLeft_41 rfl ?_
          refine z_iadd F dX4_mostLeft_42 ?_
          have h9 := h.1
          have h := h.2
          refine z_iast (w_Gu G a (Gu_s_tally vu_2 (upd (Gu_tally vu_2) (r_1).toNatClampNeg (((Gu_tally vu_2) (r_1).toNatClampNeg) + (1 : Int32))))) F 3 rfl h9 rfl dX4_mostLeft_43 ?_
          refine z_iload_n F dX4_mostLeft_44 rfl 3 rfl ?_
          refine z_aload_n F dX4_mostLeft_45 rfl 1 rfl ?_
          refine z_get (ci := 4) F iX4 0 rfl rfl 2 (by decide) f4 rfl rfl dX4_mostLeft_46 ?_
          refine z_iload F dX4_mostLeft_49 0 rfl ?_
          have h9 := h.1
          have h := h.2
          refine z_iald (f := (upd (Gu_tally vu_2) (r_1).toNatClampNeg (((Gu_tally vu_2) (r_1).toNatClampNeg) + (1 : Int32)))) F 3 rfl h9 dX4_mostLeft_51 ?_
          refine z_max F f5 f6 f7 f8 ⟨Nat.le_of_ble_eq_true rfl, Nat.le_of_ble_eq_true rfl, Nat.le_of_ble_eq_true rfl, Nat.le_of_ble_eq_true rfl⟩ dX4_mostLeft_52 ?_
          refine z_topi (fun x2_4 e9 => ?_)
          have h := h x2_4 e9
          refine z_istore_n [(2, .int x2_4), (4, .int r_1), (0, .ref (a 0)), (1, .int x1), (3, .int x3)] F dX4_mostLeft_55 rfl (by decide) rfl ?_
          exact z_lv [2, 3, 0, 4] rfl (t56 K4 ih4 (Gu_s_tally vu_2 (upd (Gu_tally vu_2) (r_1).toNatClampNeg (((Gu_tally vu_2) (r_1).toNatClampNeg) + (1 : Int32)))) x1 x2_4 x3 h)
  unfold wpX4_mostLeft at h
  refine z_iconst (v := 0) F dX4_mostLeft_0 rfl ?_
  refine z_istore_n [(2, .int (0 : Int32)), (0, .ref (a 0)), (1, .int p1)] F dX4_mostLeft_1 rfl (by decide) rfl ?_
  refine z_iconst (v := 0) F dX4_mostLeft_2 rfl ?_
  refine z_istore_n [(3, .int (0 : Int32)), (2, .int (0 : Int32)), (0, .ref (a 0)), (1, .int p1)] F dX4_mostLeft_3 rfl (by decide) rfl ?_
  obtain ⟨n9, h⟩ := h
  exact z_lv [2, 3, 1, 0] rfl (t4 n9 vu p1 (0 : Int32) (0 : Int32) h)
