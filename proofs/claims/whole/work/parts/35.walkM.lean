abbrev rmX7_in : Room := { frames := 0, cells := 0, slots := 0, locals := 0 }
set_option maxRecDepth 100000 in
set_option maxHeartbeats 4000000 in
theorem mX7_in (G : ZG) (p0 : Int32) (p1 : Int32) (p2 : Int32) (Q : Int32 → Prop) (h : wpX7_in p0 p1 p2 Q) : ZMi G yX7_in wsX7_in rmX7_in [.int p0, .int p1, .int p2] ([]) (fun _ : Unit => []) (fun r _ => Q r) := by
  refine z_ofz (cc := cX7_in) (N := 3) (lv := [(0, .int p0), (1, .int p1), (2, .int p2)]) (by decide) rfl (Nat.le_of_ble_eq_true rfl) rfl (fun E F hret => ?_)
  have F : ZF E 3 cX7_in RX7 wsX7_in rmX7_in G := F
  skip
  unfold wpX7_in at h
  refine z_iload_n F dX7_in_0 rfl 0 rfl ?_
  refine z_iload_n F dX7_in_1 rfl 1 rfl ?_
  refine z_icmp_lt 14 F dX7_in_2 (by decide) (fun c9 => ?_) (fun c9 => ?_)
  · have h := h.1 c9
    refine z_iconst (v := 0) F dX7_in_14 rfl ?_
    exact hret (0 : Int32) () _ _ h dX7_in_15 (by decide)
  · have h := h.2 c9
    refine z_iload_n F dX7_in_5 rfl 0 rfl ?_
    refine z_iload_n F dX7_in_6 rfl 2 rfl ?_
    refine z_icmp_gt 14 F dX7_in_7 (by decide) (fun c9 => ?_) (fun c9 => ?_)
    · have h := h.1 c9
      refine z_iconst (v := 0) F dX7_in_14 rfl ?_
      exact hret (0 : Int32) () _ _ h dX7_in_15 (by decide)
    · have h := h.2 c9
      refine z_iconst (v := 1) F dX7_in_10 rfl ?_
      refine z_goto 15 F dX7_in_11 (by decide) ?_
      exact hret (1 : Int32) () _ _ h dX7_in_15 (by decide)
abbrev rmX7_has : Room := { frames := 0, cells := 0, slots := 0, locals := 0 }
set_option maxRecDepth 100000 in
set_option maxHeartbeats 4000000 in
theorem mX7_has (G : ZG) (p0 : Int32) (p1 : Int32) (Q : Int32 → Prop) (h : wpX7_has p0 p1 Q) : ZMi G yX7_has wsX7_has rmX7_has [.int p0, .int p1] ([]) (fun _ : Unit => []) (fun r _ => Q r) := by
  refine z_ofz (cc := cX7_has) (N := 2) (lv := [(0, .int p0), (1, .int p1)]) (by decide) rfl (Nat.le_of_ble_eq_true rfl) rfl (fun E F hret => ?_)
  have F : ZF E 2 cX7_has RX7 wsX7_has rmX7_has G := F
  skip
  unfold wpX7_has at h
  refine z_iload_n F dX7_has_0 rfl 0 rfl ?_
  refine z_iload_n F dX7_has_1 rfl 1 rfl ?_
  refine z_ishr F dX7_has_2 ?_
  refine z_iconst (v := 1) F dX7_has_3 rfl ?_
  refine z_iand F dX7_has_4 ?_
  refine z_iconst (v := 1) F dX7_has_5 rfl ?_
  refine z_icmp_ne 13 F dX7_has_6 (by decide) (fun c9 => ?_) (fun c9 => ?_)
  · have h := h.1 c9
    refine z_iconst (v := 0) F dX7_has_13 rfl ?_
    exact hret (0 : Int32) () _ _ h dX7_has_14 (by decide)
  · have h := h.2 c9
    refine z_iconst (v := 1) F dX7_has_9 rfl ?_
    refine z_goto 14 F dX7_has_10 (by decide) ?_
    exact hret (1 : Int32) () _ _ h dX7_has_14 (by decide)
abbrev rmX7_bits : Room := { frames := 0, cells := 0, slots := 0, locals := 0 }
set_option maxRecDepth 100000 in
set_option maxHeartbeats 4000000 in
theorem mX7_bits (G : ZG) (p0 : Int32) (Q : Int32 → Prop) (h : wpX7_bits p0 Q) : ZMi G yX7_bits wsX7_bits rmX7_bits [.int p0] ([]) (fun _ : Unit => []) (fun r _ => Q r) := by
  refine z_ofi (cc := cX7_bits) (N := 3) (lv := [(0, .int p0)]) (by decide) rfl (Nat.le_of_ble_eq_true rfl) rfl (fun E F hret => ?_)
  have F : ZF E 3 cX7_bits RX7 wsX7_bits rmX7_bits G := F
  skip
  have t4 : ∀ (n : Nat) (x0 : Int32) (x1 : Int32) (x2 : Int32), wpX7_bits_L4 Q n x0 x1 x2 → Z E 3 0 0 ([]) [(0, .int x0), (1, .int x1), (2, .int x2)] 4 [] := by
    intro n
    induction n with
    | zero => intro x0 x1 x2 h; exact h.elim
    | succ n ihQ =>
      have ih4 : ∀ (x0 : Int32) (x1 : Int32) (x2 : Int32), wpX7_bits_L4 Q n x0 x1 x2 → Z E 3 0 0 ([]) [(0, .int x0), (1, .int x1), (2, .int x2)] 4 [] := ihQ
      intro x0 x1 x2 h
      have h : wpX7_bits_H4 Q (wpX7_bits_L4 Q n) x0 x1 x2 := h
      generalize wpX7_bits_L4 Q n = K4 at h ih4
      clear ihQ
      unfold wpX7_bits_H4 at h
      refine z_iload_n F dX7_bits_4 rfl 2 rfl ?_
      refine z_bipush (v := 6) F dX7_bits_5 rfl ?_
      refine z_icmp_ge 24 F dX7_bits_7 (by decide) (fun c9 => ?_) (fun c9 => ?_)
      · have h := h.1 c9
        refine z_iload_n F dX7_bits_24 rfl 1 rfl ?_
        exact hret x1 () _ _ h dX7_bits_25
      · have h := h.2 c9
        refine z_iload_n F dX7_bits_10 rfl 1 rfl ?_
        refine z_iload_n F dX7_bits_11 rfl 0 rfl ?_
        refine z_iload_n F dX7_bits_12 rfl 2 rfl ?_
        refine z_ishr F dX7_bits_13 ?_
        refine z_iconst (v := 1) F dX7_bits_14 rfl ?_
        refine z_iand F dX7_bits_15 ?_
        refine z_iadd F dX7_bits_16 ?_
        refine z_topi (fun x1_1 e9 => ?_)
        have h := h x1_1 e9
        refine z_istore_n [(1, .int x1_1), (0, .int x0), (2, .int x2)] F dX7_bits_17 rfl (by decide) rfl ?_
        obtain ⟨x2_2, e9⟩ : ∃ z : Int32, z = x2 + 1 := ⟨_, rfl⟩
        have h := h x2_2 e9
        refine z_iinc (v := x2_2) [(2, .int x2_2), (1, .int x1_1), (0, .int x0)] F dX7_bits_18 2 rfl (by rw [e9]; rfl) (by decide) rfl ?_
        refine z_goto 4 F dX7_bits_21 (by decide) ?_
        exact z_lv [2, 1, 0] rfl (ih4 x0 x1_1 x2_2 h)
  unfold wpX7_bits at h
  refine z_iconst (v := 0) F dX7_bits_0 rfl ?_
  refine z_istore_n [(1, .int (0 : Int32)), (0, .int p0)] F dX7_bits_1 rfl (by decide) rfl ?_
  refine z_iconst (v := 0) F dX7_bits_2 rfl ?_
  refine z_istore_n [(2, .int (0 : Int32)), (1, .int (0 : Int32)), (0, .int p0)] F dX7_bits_3 rfl (by decide) rfl ?_
  obtain ⟨n9, h⟩ := h
  exact z_lv [2, 1, 0] rfl (t4 n9 p0 (0 : Int32) (0 : Int32) h)
abbrev rmX7_wall : Room := { frames := 1, cells := 0, slots := 0, locals := 22 }
set_option maxRecDepth 100000 in
set_option maxHeartbeats 4000000 in
theorem mX7_wall (G : ZG) (a : Nat → Nat) (vm : Mo) (p1 : Int32) (p2 : Int32) (p3 : Int32) (Q : Int32 → Mo → Prop) (h : wpX7_wall vm p1 p2 p3 Q) : ZMi G yX7_wall wsX7_wall rmX7_wall [.ref (a 0), .int p1, .int p2, .int p3] (w_Mo G a vm) (fun vm : Mo => w_Mo G a vm) (Q) := by
  refine z_ofi (cc := cX7_wall) (N := 5) (lv := [(0, .ref (a 0)), (1, .int p1), (2, .int p2), (3, .int p3)]) (by decide) rfl (Nat.le_of_ble_eq_true rfl) rfl (fun E F hret => ?_)
  have F : ZF E 5 cX7_wall RX7 wsX7_wall rmX7_wall G := F
  have f0 : ZW E (.fieldLink RX7 13 "ColourEchoModel" "keeps" "[I") := F.at 1 rfl
  have f1 : ZW E (.fieldLink RX7 7 "ColourEchoModel" "off" "[I") := F.at 2 rfl
  have iX7 : ∀ x ∈ u_ws RX7 TX7 30, x ∈ wsX7_wall := fun _ h => List.mem_cons_of_mem _ (List.mem_append_right _ h)
  unfold wpX7_wall at h
  refine z_iload_n F dX7_wall_0 rfl 1 rfl ?_
  refine z_iconst (v := 0) F dX7_wall_1 rfl ?_
  refine z_iconst (v := 3) F dX7_wall_2 rfl ?_
  refine z_callSi (fun _ => w_Mo G a vm) F (mX7_in G p1 (0 : Int32) (3 : Int32) _ h) gX7_wall_X7_in rfl hdX7_in ⟨rfl, rfl, Nat.le_of_ble_eq_true rfl, Nat.le_of_ble_eq_true rfl, Nat.le_of_ble_eq_true rfl, Nat.le_of_ble_eq_true rfl⟩ [] [0, 1, 2, 3, 4, 5, 6, 7, 8, 9, 10, 11, 12, 13, 14, 15, 16] [0, 1, 2, 3, 4, 5, 6, 7, 8, 9, 10, 11, 12, 13, 14, 15, 16] rfl rfl (by decide) (fun _ => rfl) rfl (Nat.le_of_ble_eq_true rfl) dX7_wall_3 (fun r_1 u9 h => ?_)
  refine z_if_ne 11 F dX7_wall_6 (by decide) (fun c9 => ?_) (fun c9 => ?_)
  · have h := h.1 c9
    refine z_iload_n F dX7_wall_11 rfl 2 rfl ?_
    refine z_iconst (v := 1) F dX7_wall_12 rfl ?_
    refine z_bipush (v := 9) F dX7_wall_13 rfl ?_
    refine z_callSi (fun _ => w_Mo G a vm) F (mX7_in G p2 (1 : Int32) (9 : Int32) _ h) gX7_wall_X7_in rfl hdX7_in ⟨rfl, rfl, Nat.le_of_ble_eq_true rfl, Nat.le_of_ble_eq_true rfl, Nat.le_of_ble_eq_true rfl, Nat.le_of_ble_eq_true rfl⟩ [] [0, 1, 2, 3, 4, 5, 6, 7, 8, 9, 10, 11, 12, 13, 14, 15, 16] [0, 1, 2, 3, 4, 5, 6, 7, 8, 9, 10, 11, 12, 13, 14, 15, 16] rfl rfl (by decide) (fun _ => rfl) rfl (Nat.le_of_ble_eq_true rfl) dX7_wall_15 (fun r_2 u9 h => ?_)
    refine z_if_eq 31 F dX7_wall_18 (by decide) (fun c9 => ?_) (fun c9 => ?_)
    · have h := h.1 c9
      refine z_bipush (v := -2) F dX7_wall_31 rfl ?_
      exact hret (-2 : Int32) vm _ _ h dX7_wall_33
    · have h := h.2 c9
      refine z_iload_n F dX7_wall_21 rfl 3 rfl ?_
      refine z_iconst (v := 0) F dX7_wall_22 rfl ?_
      refine z_bipush (v := 9) F dX7_wall_23 rfl ?_
      refine z_callSi (fun _ => w_Mo G a vm) F (mX7_in G p3 (0 : Int32) (9 : Int32) _ h) gX7_wall_X7_in rfl hdX7_in ⟨rfl, rfl, Nat.le_of_ble_eq_true rfl, Nat.le_of_ble_eq_true rfl, Nat.le_of_ble_eq_true rfl, Nat.le_of_ble_eq_true rfl⟩ [] [0, 1, 2, 3, 4, 5, 6, 7, 8, 9, 10, 11, 12, 13, 14, 15, 16] [0, 1, 2, 3, 4, 5, 6, 7, 8, 9, 10, 11, 12, 13, 14, 15, 16] rfl rfl (by decide) (fun _ => rfl) rfl (Nat.le_of_ble_eq_true rfl) dX7_wall_25 (fun r_3 u9 h => ?_)
      refine z_if_ne 34 F dX7_wall_28 (by decide) (fun c9 => ?_) (fun c9 => ?_)
      · have h := h.1 c9
        refine z_aload_n F dX7_wall_34 rfl 0 rfl ?_
        refine z_get (ci := 7) F iX7 0 rfl rfl 1 (by decide) f0 rfl rfl dX7_wall_35 ?_
        refine z_iload_n F dX7_wall_38 rfl 1 rfl ?_
        have h9 := h.1
        have h := h.2
        refine z_iald F 2 rfl h9 dX7_wall_39 ?_
        refine z_topi (fun x4_4 e9 => ?_)
        have h := h x4_4 e9
        refine z_istore [(4, .int x4_4), (0, .ref (a 0)), (1, .int p1), (2, .int p2), (3, .int p3)] F dX7_wall_40 (by decide) rfl ?_
        refine z_aload_n F dX7_wall_42 rfl 1 rfl ?_
        refine z_get (ci := 7) F iX7 0 rfl rfl 0 (by decide) f1 rfl rfl dX7_wall_43 ?_
        refine z_iload_n F dX7_wall_46 rfl 2 rfl ?_
        refine z_iload_n F dX7_wall_47 rfl 3 rfl ?_
        have h9 := h.1
        have h := h.2
        refine z_iast (w_Mo G a (Mo_s_off vm (upd (Mo_off vm) (p1).toNatClampNeg p2))) F 1 rfl h9 rfl dX7_wall_48 ?_
        refine z_aload_n F dX7_wall_49 rfl 1 rfl ?_
        refine z_get (ci := 7) F iX7 0 rfl rfl 1 (by decide) f0 rfl rfl dX7_wall_50 ?_
        refine z_iload_n F dX7_wall_53 rfl 2 rfl ?_
        refine z_iload_n F dX7_wall_54 rfl 4 rfl ?_
        have h9 := h.1
        have h := h.2
        refine z_iast (f := (Mo_keeps vm)) (w_Mo G a (Mo_s_keeps (Mo_s_off vm (upd (Mo_off vm) (p1).toNatClampNeg p2)) (upd (Mo_keeps vm) (p1).toNatClampNeg p3))) F 2 rfl h9 rfl dX7_wall_55 ?_
        refine z_iload F dX7_wall_56 0 rfl ?_
        exact hret x4_4 (Mo_s_keeps (Mo_s_off vm (upd (Mo_off vm) (p1).toNatClampNeg p2)) (upd (Mo_keeps vm) (p1).toNatClampNeg p3)) _ _ h dX7_wall_58
      · have h := h.2 c9
        refine z_bipush (v := -2) F dX7_wall_31 rfl ?_
        exact hret (-2 : Int32) vm _ _ h dX7_wall_33
  · have h := h.2 c9
    refine z_iconst (v := -1) F dX7_wall_9 rfl ?_
    exact hret (-1 : Int32) vm _ _ h dX7_wall_10
abbrev rmX7_dress : Room := { frames := 1, cells := 0, slots := 0, locals := 22 }
set_option maxRecDepth 100000 in
set_option maxHeartbeats 4000000 in
theorem mX7_dress (G : ZG) (a : Nat → Nat) (vm : Mo) (p1 : Int32) (p2 : Int32) (p3 : Int32) (p4 : Int32) (Q : Int32 → Mo → Prop) (h : wpX7_dress vm p1 p2 p3 p4 Q) : ZMi G yX7_dress wsX7_dress rmX7_dress [.ref (a 0), .int p1, .int p2, .int p3, .int p4] (w_Mo G a vm) (fun vm : Mo => w_Mo G a vm) (Q) := by
  refine z_ofi (cc := cX7_dress) (N := 6) (lv := [(0, .ref (a 0)), (1, .int p1), (2, .int p2), (3, .int p3), (4, .int p4)]) (by decide) rfl (Nat.le_of_ble_eq_true rfl) rfl (fun E F hret => ?_)
  have F : ZF E 6 cX7_dress RX7 wsX7_dress rmX7_dress G := F
  have f0 : ZW E (.fieldLink RX7 16 "ColourEchoModel" "dress" "[I") := F.at 1 rfl
  have iX7 : ∀ x ∈ u_ws RX7 TX7 30, x ∈ wsX7_dress := fun _ h => List.mem_cons_of_mem _ (List.mem_append_right _ h)
  unfold wpX7_dress at h
  refine z_iload_n F dX7_dress_0 rfl 1 rfl ?_
  refine z_iconst (v := 0) F dX7_dress_1 rfl ?_
  refine z_iconst (v := 5) F dX7_dress_2 rfl ?_
  refine z_callSi (fun _ => w_Mo G a vm) F (mX7_in G p1 (0 : Int32) (5 : Int32) _ h) gX7_dress_X7_in rfl hdX7_in ⟨rfl, rfl, Nat.le_of_ble_eq_true rfl, Nat.le_of_ble_eq_true rfl, Nat.le_of_ble_eq_true rfl, Nat.le_of_ble_eq_true rfl⟩ [] [0, 1, 2, 3, 4, 5, 6, 7, 8, 9, 10, 11, 12, 13, 14, 15, 16] [0, 1, 2, 3, 4, 5, 6, 7, 8, 9, 10, 11, 12, 13, 14, 15, 16] rfl rfl (by decide) (fun _ => rfl) rfl (Nat.le_of_ble_eq_true rfl) dX7_dress_3 (fun r_1 u9 h => ?_)
  refine z_if_ne 11 F dX7_dress_6 (by decide) (fun c9 => ?_) (fun c9 => ?_)
  · have h := h.1 c9
    refine z_iload_n F dX7_dress_11 rfl 2 rfl ?_
    refine z_iconst (v := 0) F dX7_dress_12 rfl ?_
    refine z_bipush (v := 99) F dX7_dress_13 rfl ?_
    refine z_callSi (fun _ => w_Mo G a vm) F (mX7_in G p2 (0 : Int32) (99 : Int32) _ h) gX7_dress_X7_in rfl hdX7_in ⟨rfl, rfl, Nat.le_of_ble_eq_true rfl, Nat.le_of_ble_eq_true rfl, Nat.le_of_ble_eq_true rfl, Nat.le_of_ble_eq_true rfl⟩ [] [0, 1, 2, 3, 4, 5, 6, 7, 8, 9, 10, 11, 12, 13, 14, 15, 16] [0, 1, 2, 3, 4, 5, 6, 7, 8, 9, 10, 11, 12, 13, 14, 15, 16] rfl rfl (by decide) (fun _ => rfl) rfl (Nat.le_of_ble_eq_true rfl) dX7_dress_15 (fun r_2 u9 h => ?_)
    refine z_if_eq 42 F dX7_dress_18 (by decide) (fun c9 => ?_) (fun c9 => ?_)
    · have h := h.1 c9
      refine z_bipush (v := -2) F dX7_dress_42 rfl ?_
      exact hret (-2 : Int32) vm _ _ h dX7_dress_44
    · have h := h.2 c9
      refine z_iload_n F dX7_dress_21 rfl 3 rfl ?_
      refine z_iconst (v := 0) F dX7_dress_22 rfl ?_
      refine z_bipush (v := 99) F dX7_dress_23 rfl ?_
      refine z_callSi (fun _ => w_Mo G a vm) F (mX7_in G p3 (0 : Int32) (99 : Int32) _ h) gX7_dress_X7_in rfl hdX7_in ⟨rfl, rfl, Nat.le_of_ble_eq_true rfl, Nat.le_of_ble_eq_true rfl, Nat.le_of_ble_eq_true rfl, Nat.le_of_ble_eq_true rfl⟩ [] [0, 1, 2, 3, 4, 5, 6, 7, 8, 9, 10, 11, 12, 13, 14, 15, 16] [0, 1, 2, 3, 4, 5, 6, 7, 8, 9, 10, 11, 12, 13, 14, 15, 16] rfl rfl (by decide) (fun _ => rfl) rfl (Nat.le_of_ble_eq_true rfl) dX7_dress_25 (fun r_3 u9 h => ?_)
      refine z_if_eq 42 F dX7_dress_28 (by decide) (fun c9 => ?_) (fun c9 => ?_)
      · have h := h.1 c9
        refine z_bipush (v := -2) F dX7_dress_42 rfl ?_
        exact hret (-2 : Int32) vm _ _ h dX7_dress_44
      · have h := h.2 c9
        refine z_iload F dX7_dress_31 4 rfl ?_
        refine z_iconst (v := 0) F dX7_dress_33 rfl ?_
        refine z_bipush (v := 99) F dX7_dress_34 rfl ?_
        refine z_callSi (fun _ => w_Mo G a vm) F (mX7_in G p4 (0 : Int32) (99 : Int32) _ h) gX7_dress_X7_in rfl hdX7_in ⟨rfl, rfl, Nat.le_of_ble_eq_true rfl, Nat.le_of_ble_eq_true rfl, Nat.le_of_ble_eq_true rfl, Nat.le_of_ble_eq_true rfl⟩ [] [0, 1, 2, 3, 4, 5, 6, 7, 8, 9, 10, 11, 12, 13, 14, 15, 16] [0, 1, 2, 3, 4, 5, 6, 7, 8, 9, 10, 11, 12, 13, 14, 15, 16] rfl rfl (by decide) (fun _ => rfl) rfl (Nat.le_of_ble_eq_true rfl) dX7_dress_36 (fun r_4 u9 h => ?_)
        refine z_if_ne 45 F dX7_dress_39 (by decide) (fun c9 => ?_) (fun c9 => ?_)
        · have h := h.1 c9
          refine z_aload_n F dX7_dress_45 rfl 0 rfl ?_
          refine z_get (ci := 7) F iX7 0 rfl rfl 2 (by decide) f0 rfl rfl dX7_dress_46 ?_
          refine z_iconst (v := 3) F dX7_dress_49 rfl ?_
          refine z_iload_n F dX7_dress_50 rfl 1 rfl ?_
          refine z_imul F dX7_dress_51 ?_
          have h9 := h.1
          have h := h.2
          refine z_iald F 3 rfl h9 dX7_dress_52 ?_
          refine z_aload_n F dX7_dress_53 rfl 0 rfl ?_
          refine z_get (ci := 7) F iX7 0 rfl rfl 2 (by decide) f0 rfl rfl dX7_dress_54 ?_
          refine z_iconst (v := 3) F dX7_dress_57 rfl ?_
          refine z_iload_n F dX7_dress_58 rfl 1 rfl ?_
          refine z_imul F dX7_dress_59 ?_
          refine z_iconst (v := 1) F dX7_dress_60 rfl ?_
          refine z_iadd F dX7_dress_61 ?_
          have h9 := h.1
          have h := h.2
          refine z_iald F 3 rfl h9 dX7_dress_62 ?_
          refine z_iadd F dX7_dress_63 ?_
          refine z_aload_n F dX7_dress_64 rfl 0 rfl ?_
          refine z_get (ci := 7) F iX7 0 rfl rfl 2 (by decide) f0 rfl rfl dX7_dress_65 ?_
          refine z_iconst (v := 3) F dX7_dress_68 rfl ?_
          refine z_iload_n F dX7_dress_69 rfl 1 rfl ?_
          refine z_imul F dX7_dress_70 ?_
          refine z_iconst (v := 2) F dX7_dress_71 rfl ?_
          refine z_iadd F dX7_dress_72 ?_
          have h9 := h.1
          have h := h.2
          refine z_iald F 3 rfl h9 dX7_dress_73 ?_
          refine z_iadd F dX7_dress_74 ?_
          refine z_topi (fun x5_5 e9 => ?_)
          have h := h x5_5 e9
          refine z_istore [(5, .int x5_5), (0, .ref (a 0)), (1, .int p1), (2, .int p2), (3, .int p3), (4, .int p4)] F dX7_dress_75 (by decide) rfl ?_
          refine z_aload_n F dX7_dress_77 rfl 1 rfl ?_
          refine z_get (ci := 7) F iX7 0 rfl rfl 2 (by decide) f0 rfl rfl dX7_dress_78 ?_
          refine z_iconst (v := 3) F dX7_dress_81 rfl ?_
          refine z_iload_n F dX7_dress_82 rfl 2 rfl ?_
          refine z_imul F dX7_dress_83 ?_
          refine z_iload_n F dX7_dress_84 rfl 3 rfl ?_
          have h9 := h.1
          have h := h.2
          refine z_iast (w_Mo G a (Mo_s_dress vm (upd (Mo_dress vm) (((3 : Int32) * p1)).toNatClampNeg p2))) F 3 rfl h9 rfl dX7_dress_85 ?_
          refine z_aload_n F dX7_dress_86 rfl 1 rfl ?_
          refine z_get (ci := 7) F iX7 0 rfl rfl 2 (by decide) f0 rfl rfl dX7_dress_87 ?_
          refine z_iconst (v := 3) F dX7_dress_90 rfl ?_
          refine z_iload_n F dX7_dress_91 rfl 2 rfl ?_
          refine z_imul F dX7_dress_92 ?_
          refine z_iconst (v := 1) F dX7_dress_93 rfl ?_
          refine z_iadd F dX7_dress_94 ?_
          refine z_iload_n F dX7_dress_95 rfl 4 rfl ?_
          have h9 := h.1
          have h := h.2
          refine z_iast (f := (upd (Mo_dress vm) (((3 : Int32) * p1)).toNatClampNeg p2)) (w_Mo G a (Mo_s_dress vm (upd (upd (Mo_dress vm) (((3 : Int32) * p1)).toNatClampNeg p2) ((((3 : Int32) * p1) + (1 : Int32))).toNatClampNeg p3))) F 3 rfl h9 rfl dX7_dress_96 ?_
          refine z_aload_n F dX7_dress_97 rfl 1 rfl ?_
          refine z_get (ci := 7) F iX7 0 rfl rfl 2 (by decide) f0 rfl rfl dX7_dress_98 ?_
          refine z_iconst (v := 3) F dX7_dress_101 rfl ?_
          refine z_iload_n F dX7_dress_102 rfl 2 rfl ?_
          refine z_imul F dX7_dress_103 ?_
          refine z_iconst (v := 2) F dX7_dress_104 rfl ?_
          refine z_iadd F dX7_dress_105 ?_
          refine z_iload F dX7_dress_106 5 rfl ?_
          have h9 := h.1
          have h := h.2
          refine z_iast (f := (upd (upd (Mo_dress vm) (((3 : Int32) * p1)).toNatClampNeg p2) ((((3 : Int32) * p1) + (1 : Int32))).toNatClampNeg p3)) (w_Mo G a (Mo_s_dress vm (upd (upd (upd (Mo_dress vm) (((3 : Int32) * p1)).toNatClampNeg p2) ((((3 : Int32) * p1) + (1 : Int32))).toNatClampNeg p3) ((((3 : Int32) * p1) + (2 : Int32))).toNatClampNeg p4))) F 3 rfl h9 rfl dX7_dress_108 ?_
          refine z_iload F dX7_dress_109 0 rfl ?_
          exact hret x5_5 (Mo_s_dress vm (upd (upd (upd (Mo_dress vm) (((3 : Int32) * p1)).toNatClampNeg p2) ((((3 : Int32) * p1) + (1 : Int32))).toNatClampNeg p3) ((((3 : Int32) * p1) + (2 : Int32))).toNatClampNeg p4)) _ _ h dX7_dress_111
        · have h := h.2 c9
          refine z_bipush (v := -2) F dX7_dress_42 rfl ?_
          exact hret (-2 : Int32) vm _ _ h dX7_dress_44
  · have h := h.2 c9
    refine z_iconst (v := -1) F dX7_dress_9 rfl ?_
    exact hret (-1 : Int32) vm _ _ h dX7_dress_10
abbrev rmX7_limit : Room := { frames := 1, cells := 0, slots := 0, locals := 22 }
set_option maxRecDepth 100000 in
set_option maxHeartbeats 4000000 in
theorem mX7_limit (G : ZG) (a : Nat → Nat) (vm : Mo) (p1 : Int32) (Q : Int32 → Mo → Prop) (h : wpX7_limit vm p1 Q) : ZMi G yX7_limit wsX7_limit rmX7_limit [.ref (a 0), .int p1] (w_Mo G a vm) (fun vm : Mo => w_Mo G a vm) (Q) := by
  refine z_ofi (cc := cX7_limit) (N := 3) (lv := [(0, .ref (a 0)), (1, .int p1)]) (by decide) rfl (Nat.le_of_ble_eq_true rfl) rfl (fun E F hret => ?_)
  have F : ZF E 3 cX7_limit RX7 wsX7_limit rmX7_limit G := F
  have f0 : ZW E (.fieldLink RX7 19 "ColourEchoModel" "limit" "I") := F.at 1 rfl
  have iX7 : ∀ x ∈ u_ws RX7 TX7 30, x ∈ wsX7_limit := fun _ h => List.mem_cons_of_mem _ (List.mem_append_right _ h)
  unfold wpX7_limit at h
  refine z_iload_n F dX7_limit_0 rfl 1 rfl ?_
  refine z_iconst (v := 0) F dX7_limit_1 rfl ?_
  refine z_sipush (v := 999) F dX7_limit_2 rfl ?_
  refine z_callSi (fun _ => w_Mo G a vm) F (mX7_in G p1 (0 : Int32) (999 : Int32) _ h) gX7_limit_X7_in rfl hdX7_in ⟨rfl, rfl, Nat.le_of_ble_eq_true rfl, Nat.le_of_ble_eq_true rfl, Nat.le_of_ble_eq_true rfl, Nat.le_of_ble_eq_true rfl⟩ [] [0, 1, 2, 3, 4, 5, 6, 7, 8, 9, 10, 11, 12, 13, 14, 15, 16] [0, 1, 2, 3, 4, 5, 6, 7, 8, 9, 10, 11, 12, 13, 14, 15, 16] rfl rfl (by decide) (fun _ => rfl) rfl (Nat.le_of_ble_eq_true rfl) dX7_limit_5 (fun r_1 u9 h => ?_)
  refine z_if_ne 14 F dX7_limit_8 (by decide) (fun c9 => ?_) (fun c9 => ?_)
  · have h := h.1 c9
    refine z_aload_n F dX7_limit_14 rfl 0 rfl ?_
    refine z_get (ci := 7) F iX7 0 rfl rfl 3 (by decide) f0 rfl rfl dX7_limit_15 ?_
    refine z_topi (fun x2_2 e9 => ?_)
    have h := h x2_2 e9
    refine z_istore_n [(2, .int x2_2), (0, .ref (a 0)), (1, .int p1)] F dX7_limit_18 rfl (by decide) rfl ?_
    refine z_aload_n F dX7_limit_19 rfl 1 rfl ?_
    refine z_iload_n F dX7_limit_20 rfl 2 rfl ?_
    refine z_put (ci := 7) (ty := .int) (w_Mo G a (Mo_s_limit vm p1)) F iX7 tyX7 tyX7_ok nmX7 0 rfl rfl 3 (by decide) f0 rfl rfl rfl rfl rfl (Nat.le_of_ble_eq_true rfl) rfl dX7_limit_21 ?_
    refine z_iload_n F dX7_limit_24 rfl 0 rfl ?_
    exact hret x2_2 (Mo_s_limit vm p1) _ _ h dX7_limit_25
  · have h := h.2 c9
    refine z_bipush (v := -2) F dX7_limit_11 rfl ?_
    exact hret (-2 : Int32) vm _ _ h dX7_limit_13
abbrev rmX7_say : Room := { frames := 1, cells := 0, slots := 0, locals := 22 }
set_option maxRecDepth 100000 in
set_option maxHeartbeats 4000000 in
theorem mX7_say (G : ZG) (a : Nat → Nat) (vm : Mo) (p1 : Int32) (Q : Int32 → Mo → Prop) (h : wpX7_say vm p1 Q) : ZMi G yX7_say wsX7_say rmX7_say [.ref (a 0), .int p1] (w_Mo G a vm) (fun vm : Mo => w_Mo G a vm) (Q) := by
  refine z_ofi (cc := cX7_say) (N := 2) (lv := [(0, .ref (a 0)), (1, .int p1)]) (by decide) rfl (Nat.le_of_ble_eq_true rfl) rfl (fun E F hret => ?_)
  have F : ZF E 2 cX7_say RX7 wsX7_say rmX7_say G := F
  have f0 : ZW E (.fieldLink RX7 67 "ColourEchoModel" "signs" "I") := F.at 1 rfl
  have f1 : ZW E (.fieldLink RX7 32 "ColourEchoModel" "pad" "[I") := F.at 2 rfl
  have iX7 : ∀ x ∈ u_ws RX7 TX7 30, x ∈ wsX7_say := fun _ h => List.mem_cons_of_mem _ (List.mem_append_right _ h)
  unfold wpX7_say at h
  refine z_iload_n F dX7_say_0 rfl 1 rfl ?_
  refine z_bipush (v := 33) F dX7_say_1 rfl ?_
  refine z_bipush (v := 126) F dX7_say_3 rfl ?_
  refine z_callSi (fun _ => w_Mo G a vm) F (mX7_in G p1 (33 : Int32) (126 : Int32) _ h) gX7_say_X7_in rfl hdX7_in ⟨rfl, rfl, Nat.le_of_ble_eq_true rfl, Nat.le_of_ble_eq_true rfl, Nat.le_of_ble_eq_true rfl, Nat.le_of_ble_eq_true rfl⟩ [] [0, 1, 2, 3, 4, 5, 6, 7, 8, 9, 10, 11, 12, 13, 14, 15, 16] [0, 1, 2, 3, 4, 5, 6, 7, 8, 9, 10, 11, 12, 13, 14, 15, 16] rfl rfl (by decide) (fun _ => rfl) rfl (Nat.le_of_ble_eq_true rfl) dX7_say_5 (fun r_1 u9 h => ?_)
  refine z_if_ne 14 F dX7_say_8 (by decide) (fun c9 => ?_) (fun c9 => ?_)
  · have h := h.1 c9
    refine z_aload_n F dX7_say_14 rfl 0 rfl ?_
    refine z_get (ci := 7) F iX7 0 rfl rfl 12 (by decide) f0 rfl rfl dX7_say_15 ?_
    refine z_bipush (v := 60) F dX7_say_18 rfl ?_
    refine z_icmp_ne 26 F dX7_say_20 (by decide) (fun c9 => ?_) (fun c9 => ?_)
    · have h := h.1 c9
      refine z_aload_n F dX7_say_26 rfl 0 rfl ?_
      refine z_get (ci := 7) F iX7 0 rfl rfl 13 (by decide) f1 rfl rfl dX7_say_27 ?_
      refine z_aload_n F dX7_say_30 rfl 0 rfl ?_
      refine z_get (ci := 7) F iX7 0 rfl rfl 12 (by decide) f0 rfl rfl dX7_say_31 ?_
      refine z_iload_n F dX7_say_34 rfl 1 rfl ?_
      have h9 := h.1
      have h := h.2
      refine z_iast (w_Mo G a (Mo_s_pad vm (upd (Mo_pad vm) ((Mo_signs vm)).toNatClampNeg p1))) F 7 rfl h9 rfl dX7_say_35 ?_
      refine z_aload_n F dX7_say_36 rfl 0 rfl ?_
      refine z_dup F dX7_say_37 rfl ?_
      refine z_get (ci := 7) (v := .int (Mo_signs vm)) F iX7 0 rfl rfl 12 (by decide) f0 rfl rfl dX7_say_38 ?_
      refine z_iconst (v := 1) F dX7_say_41 rfl ?_
      refine z_iadd F dX7_say_42 ?_
      refine z_put (ci := 7) (ty := .int) (w_Mo G a (Mo_s_signs (Mo_s_pad vm (upd (Mo_pad vm) ((Mo_signs vm)).toNatClampNeg p1)) ((Mo_signs vm) + (1 : Int32)))) F iX7 tyX7 tyX7_ok nmX7 0 rfl rfl 12 (by decide) f0 rfl rfl rfl rfl rfl (Nat.le_of_ble_eq_true rfl) rfl dX7_say_43 ?_
      refine z_aload_n F dX7_say_46 rfl 0 rfl ?_
      refine z_get (ci := 7) (v := .int ((Mo_signs vm) + (1 : Int32))) F iX7 0 rfl rfl 12 (by decide) f0 rfl rfl dX7_say_47 ?_
      exact hret ((Mo_signs vm) + (1 : Int32)) (Mo_s_signs (Mo_s_pad vm (upd (Mo_pad vm) ((Mo_signs vm)).toNatClampNeg p1)) ((Mo_signs vm) + (1 : Int32))) _ _ h dX7_say_50
    · have h := h.2 c9
      refine z_bipush (v := -4) F dX7_say_23 rfl ?_
      exact hret (-4 : Int32) vm _ _ h dX7_say_25
  · have h := h.2 c9
    refine z_bipush (v := -2) F dX7_say_11 rfl ?_
    exact hret (-2 : Int32) vm _ _ h dX7_say_13
abbrev rmX7_wipe : Room := { frames := 0, cells := 0, slots := 0, locals := 0 }
set_option maxRecDepth 100000 in
set_option maxHeartbeats 4000000 in
theorem mX7_wipe (G : ZG) (a : Nat → Nat) (vm : Mo) (Q : Int32 → Mo → Prop) (h : wpX7_wipe vm Q) : ZMi G yX7_wipe wsX7_wipe rmX7_wipe [.ref (a 0)] (w_Mo G a vm) (fun vm : Mo => w_Mo G a vm) (Q) := by
  refine z_ofi (cc := cX7_wipe) (N := 2) (lv := [(0, .ref (a 0))]) (by decide) rfl (Nat.le_of_ble_eq_true rfl) rfl (fun E F hret => ?_)
  have F : ZF E 2 cX7_wipe RX7 wsX7_wipe rmX7_wipe G := F
  have f0 : ZW E (.fieldLink RX7 67 "ColourEchoModel" "signs" "I") := F.at 1 rfl
  have iX7 : ∀ x ∈ u_ws RX7 TX7 30, x ∈ wsX7_wipe := fun _ h => List.mem_cons_of_mem _ (List.mem_append_right _ h)
  unfold wpX7_wipe at h
  refine z_aload_n F dX7_wipe_0 rfl 0 rfl ?_
  refine z_get (ci := 7) F iX7 0 rfl rfl 12 (by decide) f0 rfl rfl dX7_wipe_1 ?_
  refine z_topi (fun x1_1 e9 => ?_)
  have h := h x1_1 e9
  refine z_istore_n [(1, .int x1_1), (0, .ref (a 0))] F dX7_wipe_4 rfl (by decide) rfl ?_
  refine z_aload_n F dX7_wipe_5 rfl 1 rfl ?_
  refine z_iconst (v := 0) F dX7_wipe_6 rfl ?_
  refine z_put (ci := 7) (ty := .int) (w_Mo G a (Mo_s_signs vm (0 : Int32))) F iX7 tyX7 tyX7_ok nmX7 0 rfl rfl 12 (by decide) f0 rfl rfl rfl rfl rfl (Nat.le_of_ble_eq_true rfl) rfl dX7_wipe_7 ?_
  refine z_iload_n F dX7_wipe_10 rfl 0 rfl ?_
  exact hret x1_1 (Mo_s_signs vm (0 : Int32)) _ _ h dX7_wipe_11
abbrev rmX7_colourOf : Room := { frames := 0, cells := 0, slots := 0, locals := 0 }
set_option maxRecDepth 100000 in
set_option maxHeartbeats 4000000 in
theorem mX7_colourOf (G : ZG) (p0 : Int32) (Q : Int32 → Prop) (h : wpX7_colourOf p0 Q) : ZMi G yX7_colourOf wsX7_colourOf rmX7_colourOf [.int p0] ([]) (fun _ : Unit => []) (fun r _ => Q r) := by
  refine z_ofi (cc := cX7_colourOf) (N := 1) (lv := [(0, .int p0)]) (by decide) rfl (Nat.le_of_ble_eq_true rfl) rfl (fun E F hret => ?_)
  have F : ZF E 1 cX7_colourOf RX7 wsX7_colourOf rmX7_colourOf G := F
  skip
  unfold wpX7_colourOf at h
  refine z_iload_n F dX7_colourOf_0 rfl 0 rfl ?_
  refine z_bipush (v := 114) F dX7_colourOf_1 rfl ?_
  refine z_icmp_ne 10 F dX7_colourOf_3 (by decide) (fun c9 => ?_) (fun c9 => ?_)
  · have h := h.1 c9
    refine z_iload_n F dX7_colourOf_10 rfl 0 rfl ?_
    refine z_bipush (v := 121) F dX7_colourOf_11 rfl ?_
    refine z_icmp_ne 20 F dX7_colourOf_13 (by decide) (fun c9 => ?_) (fun c9 => ?_)
    · have h := h.1 c9
      refine z_iload_n F dX7_colourOf_20 rfl 0 rfl ?_
      refine z_bipush (v := 98) F dX7_colourOf_21 rfl ?_
      refine z_icmp_ne 30 F dX7_colourOf_23 (by decide) (fun c9 => ?_) (fun c9 => ?_)
      · have h := h.1 c9
        refine z_bipush (v := -6) F dX7_colourOf_30 rfl ?_
        exact hret (-6 : Int32) () _ _ h dX7_colourOf_32
      · have h := h.2 c9
        refine z_iconst (v := 2) F dX7_colourOf_26 rfl ?_
        refine z_goto 32 F dX7_colourOf_27 (by decide) ?_
        exact hret (2 : Int32) () _ _ h dX7_colourOf_32
    · have h := h.2 c9
      refine z_iconst (v := 1) F dX7_colourOf_16 rfl ?_
      refine z_goto 32 F dX7_colourOf_17 (by decide) ?_
      exact hret (1 : Int32) () _ _ h dX7_colourOf_32
  · have h := h.2 c9
    refine z_iconst (v := 0) F dX7_colourOf_6 rfl ?_
    refine z_goto 32 F dX7_colourOf_7 (by decide) ?_
    exact hret (0 : Int32) () _ _ h dX7_colourOf_32
abbrev rmX7_faultOf : Room := { frames := 1, cells := 0, slots := 0, locals := 22 }
set_option maxRecDepth 100000 in
set_option maxHeartbeats 4000000 in
theorem mX7_faultOf (G : ZG) (a : Nat → Nat) (vm : Mo) (Q : Int32 → Mo → Prop) (h : wpX7_faultOf vm Q) : ZMi G yX7_faultOf wsX7_faultOf rmX7_faultOf [.ref (a 0)] (w_Mo G a vm) (fun vm : Mo => w_Mo G a vm) (Q) := by
  refine z_ofi (cc := cX7_faultOf) (N := 6) (lv := [(0, .ref (a 0))]) (by decide) rfl (Nat.le_of_ble_eq_true rfl) rfl (fun E F hret => ?_)
  have F : ZF E 6 cX7_faultOf RX7 wsX7_faultOf rmX7_faultOf G := F
  have f0 : ZW E (.fieldLink RX7 67 "ColourEchoModel" "signs" "I") := F.at 1 rfl
  have f1 : ZW E (.fieldLink RX7 32 "ColourEchoModel" "pad" "[I") := F.at 2 rfl
  have iX7 : ∀ x ∈ u_ws RX7 TX7 30, x ∈ wsX7_faultOf := fun _ h => List.mem_cons_of_mem _ (List.mem_append_right _ h)
  have t140 : ∀ (K4 : Mo → Int32 → Int32 → Prop) (ih4 : ∀ (vm : Mo) (x1 : Int32) (x2 : Int32), K4 vm x1 x2 → Z E 6 0 0 (w_Mo G a vm) [(0, .ref (a 0)), (1, .int x1), (2, .int x2)] 4 []) (vm : Mo) (x2 : Int32) (s0 : Int32), wpX7_faultOf_B140 Q K4 vm x2 s0 → Z E 6 0 0 (w_Mo G a vm) [(0, .ref (a 0)), (2, .int x2)] 140 [.int s0] := by
    intro K4 ih4 vm x2 s0 h
    unfold wpX7_faultOf_B140 at h
    refine z_istore_n [(1, .int s0), (0, .ref (a 0)), (2, .int x2)] F dX7_faultOf_140 rfl (by decide) rfl ?_
    obtain ⟨x2_7, e9⟩ : ∃ z : Int32, z = x2 + 1 := ⟨_, rfl⟩
    have h := h x2_7 e9
    refine z_iinc (v := x2_7) [(2, .int x2_7), (1, .int s0), (0, .ref (a 0))] F dX7_faultOf_141 2 rfl (by rw [e9]; rfl) (by decide) rfl ?_
    refine z_goto 4 F dX7_faultOf_144 (by decide) ?_
    exact z_lv [2, 1, 0] rfl (ih4 vm s0 x2_7 h)
  have t101 : ∀ (K4 : Mo → Int32 → Int32 → Prop) (ih4 : ∀ (vm : Mo) (x1 : Int32) (x2 : Int32), K4 vm x1 x2 → Z E 6 0 0 (w_Mo G a vm) [(0, .ref (a 0)), (1, .int x1), (2, .int x2)] 4 []) (vm : Mo) (x1 : Int32) (x2 : Int32) (x3 : Int32) (s0 : Int32), wpX7_faultOf_B101 Q K4 vm x1 x2 x3 s0 → Z E 6 0 0 (w_Mo G a vm) [(0, .ref (a 0)), (1, .int x1), (2, .int x2), (3, .int x3)] 101 [.int s0] := by
    intro K4 ih4 vm x1 x2 x3 s0 h
    unfold wpX7_faultOf_B101 at h
    refine z_istore [(5, .int s0), (0, .ref (a 0)), (1, .int x1), (2, .int x2), (3, .int x3)] F dX7_faultOf_101 (by decide) rfl ?_
    refine z_iload F dX7_faultOf_103 0 rfl ?_
    refine z_if_ne 110 F dX7_faultOf_105 (by decide) (fun c9 => ?_) (fun c9 => ?_)
    · have h := h.1 c9
      refine z_iload_n F dX7_faultOf_110 rfl 2 rfl ?_
      refine z_if_eq 118 F dX7_faultOf_111 (by decide) (fun c9 => ?_) (fun c9 => ?_)
      · have h := h.1 c9
        refine z_iload_n F dX7_faultOf_118 rfl 4 rfl ?_
        refine z_callSi (fun _ => w_Mo G a vm) F (mX7_colourOf G x3 _ h) gX7_faultOf_X7_colourOf rfl hdX7_colourOf ⟨rfl, rfl, Nat.le_of_ble_eq_true rfl, Nat.le_of_ble_eq_true rfl, Nat.le_of_ble_eq_true rfl, Nat.le_of_ble_eq_true rfl⟩ [] [0, 1, 2, 3, 4, 5, 6, 7, 8, 9, 10, 11, 12, 13, 14, 15, 16] [0, 1, 2, 3, 4, 5, 6, 7, 8, 9, 10, 11, 12, 13, 14, 15, 16] rfl rfl (by decide) (fun _ => rfl) rfl (Nat.le_of_ble_eq_true rfl) dX7_faultOf_119 (fun r_6 u9 h => ?_)
        refine z_if_lt 129 F dX7_faultOf_122 (by decide) (fun c9 => ?_) (fun c9 => ?_)
        · have h := h.1 c9
          refine z_iload_n F dX7_faultOf_129 rfl 4 rfl ?_
          refine z_bipush (v := 119) F dX7_faultOf_130 rfl ?_
          refine z_icmp_ne 139 F dX7_faultOf_132 (by decide) (fun c9 => ?_) (fun c9 => ?_)
          · have h := h.1 c9
            refine z_iconst (v := 0) F dX7_faultOf_139 rfl ?_
            exact z_lv [1, 3] rfl (t140 K4 ih4 vm x2 (0 : Int32) h)
          · have h := h.2 c9
            refine z_iconst (v := 2) F dX7_faultOf_135 rfl ?_
            refine z_goto 140 F dX7_faultOf_136 (by decide) ?_
            exact z_lv [1, 3] rfl (t140 K4 ih4 vm x2 (2 : Int32) h)
        · have h := h.2 c9
          refine z_iconst (v := 1) F dX7_faultOf_125 rfl ?_
          refine z_goto 140 F dX7_faultOf_126 (by decide) ?_
          exact z_lv [1, 3] rfl (t140 K4 ih4 vm x2 (1 : Int32) h)
      · have h := h.2 c9
        refine z_iconst (v := 0) F dX7_faultOf_114 rfl ?_
        refine z_goto 140 F dX7_faultOf_115 (by decide) ?_
        exact z_lv [1, 3] rfl (t140 K4 ih4 vm x2 (0 : Int32) h)
    · have h := h.2 c9
      refine z_iload_n F dX7_faultOf_108 rfl 3 rfl ?_
      exact hret x2 vm _ _ h dX7_faultOf_109
  have t66 : ∀ (K4 : Mo → Int32 → Int32 → Prop) (ih4 : ∀ (vm : Mo) (x1 : Int32) (x2 : Int32), K4 vm x1 x2 → Z E 6 0 0 (w_Mo G a vm) [(0, .ref (a 0)), (1, .int x1), (2, .int x2)] 4 []) (vm : Mo) (x1 : Int32) (x2 : Int32) (x3 : Int32) (s0 : Int32), wpX7_faultOf_B66 Q K4 vm x1 x2 x3 s0 → Z E 6 0 0 (w_Mo G a vm) [(0, .ref (a 0)), (1, .int x1), (2, .int x2), (3, .int x3)] 66 [.int s0] := by
    intro K4 ih4 vm x1 x2 x3 s0 h
    unfold wpX7_faultOf_B66 at h
    refine z_istore [(4, .int s0), (0, .ref (a 0)), (1, .int x1), (2, .int x2), (3, .int x3)] F dX7_faultOf_66 (by decide) rfl ?_
    refine z_iload_n F dX7_faultOf_68 rfl 2 rfl ?_
    refine z_if_ne 77 F dX7_faultOf_69 (by decide) (fun c9 => ?_) (fun c9 => ?_)
    · have h := h.1 c9
      refine z_iload_n F dX7_faultOf_77 rfl 2 rfl ?_
      refine z_iconst (v := 1) F dX7_faultOf_78 rfl ?_
      refine z_icmp_ne 93 F dX7_faultOf_79 (by decide) (fun c9 => ?_) (fun c9 => ?_)
      · have h := h.1 c9
        refine z_iload_n F dX7_faultOf_93 rfl 4 rfl ?_
        refine z_bipush (v := 48) F dX7_faultOf_94 rfl ?_
        refine z_bipush (v := 51) F dX7_faultOf_96 rfl ?_
        refine z_callSi (fun _ => w_Mo G a vm) F (mX7_in G x3 (48 : Int32) (51 : Int32) _ h) gX7_faultOf_X7_in rfl hdX7_in ⟨rfl, rfl, Nat.le_of_ble_eq_true rfl, Nat.le_of_ble_eq_true rfl, Nat.le_of_ble_eq_true rfl, Nat.le_of_ble_eq_true rfl⟩ [] [0, 1, 2, 3, 4, 5, 6, 7, 8, 9, 10, 11, 12, 13, 14, 15, 16] [0, 1, 2, 3, 4, 5, 6, 7, 8, 9, 10, 11, 12, 13, 14, 15, 16] rfl rfl (by decide) (fun _ => rfl) rfl (Nat.le_of_ble_eq_true rfl) dX7_faultOf_98 (fun r_4 u9 h => ?_)
        exact z_lv [1, 2, 3, 4] rfl (t101 K4 ih4 vm x1 x2 x3 r_4 h)
      · have h := h.2 c9
        refine z_iload_n F dX7_faultOf_82 rfl 4 rfl ?_
        refine z_bipush (v := 49) F dX7_faultOf_83 rfl ?_
        refine z_bipush (v := 57) F dX7_faultOf_85 rfl ?_
        refine z_callSi (fun _ => w_Mo G a vm) F (mX7_in G x3 (49 : Int32) (57 : Int32) _ h) gX7_faultOf_X7_in rfl hdX7_in ⟨rfl, rfl, Nat.le_of_ble_eq_true rfl, Nat.le_of_ble_eq_true rfl, Nat.le_of_ble_eq_true rfl, Nat.le_of_ble_eq_true rfl⟩ [] [0, 1, 2, 3, 4, 5, 6, 7, 8, 9, 10, 11, 12, 13, 14, 15, 16] [0, 1, 2, 3, 4, 5, 6, 7, 8, 9, 10, 11, 12, 13, 14, 15, 16] rfl rfl (by decide) (fun _ => rfl) rfl (Nat.le_of_ble_eq_true rfl) dX7_faultOf_87 (fun r_5 u9 h => ?_)
        refine z_goto 101 F dX7_faultOf_90 (by decide) ?_
        exact z_lv [1, 2, 3, 4] rfl (t101 K4 ih4 vm x1 x2 x3 r_5 h)
    · have h := h.2 c9
      refine z_iload F dX7_faultOf_72 0 rfl ?_
      refine z_goto 101 F dX7_faultOf_74 (by decide) ?_
      exact z_lv [1, 2, 3, 4] rfl (t101 K4 ih4 vm x1 x2 x3 s0 h)
  have t61 : ∀ (K4 : Mo → Int32 → Int32 → Prop) (ih4 : ∀ (vm : Mo) (x1 : Int32) (x2 : Int32), K4 vm x1 x2 → Z E 6 0 0 (w_Mo G a vm) [(0, .ref (a 0)), (1, .int x1), (2, .int x2)] 4 []) (vm : Mo) (x1 : Int32) (x2 : Int32) (x3 : Int32), wpX7_faultOf_B61 Q K4 vm x1 x2 x3 → Z E 6 0 0 (w_Mo G a vm) [(0, .ref (a 0)), (1, .int x1), (2, .int x2), (3, .int x3)] 61 [] := by
    intro K4 ih4 vm x1 x2 x3 h
    unfold wpX7_faultOf_B61 at h
    refine z_iconst (v := 1) F dX7_faultOf_61 rfl ?_
    refine z_goto 66 F dX7_faultOf_62 (by decide) ?_
    exact z_lv [0, 1, 2, 3] rfl (t66 K4 ih4 vm x1 x2 x3 (1 : Int32) h)
  have t4 : ∀ (n : Nat) (vm : Mo) (x1 : Int32) (x2 : Int32), wpX7_faultOf_L4 Q n vm x1 x2 → Z E 6 0 0 (w_Mo G a vm) [(0, .ref (a 0)), (1, .int x1), (2, .int x2)] 4 [] := by
    intro n
    induction n with
    | zero => intro vm x1 x2 h; exact h.elim
    | succ n ihQ =>
      have ih4 : ∀ (vm : Mo) (x1 : Int32) (x2 : Int32), wpX7_faultOf_L4 Q n vm x1 x2 → Z E 6 0 0 (w_Mo G a vm) [(0, .ref (a 0)), (1, .int x1), (2, .int x2)] 4 [] := ihQ
      intro vm x1 x2 h
      have h : wpX7_faultOf_H4 Q (wpX7_faultOf_L4 Q n) vm x1 x2 := h
      generalize wpX7_faultOf_L4 Q n = K4 at h ih4
      clear ihQ
      unfold wpX7_faultOf_H4 at h
      refine z_iload_n F dX7_faultOf_4 rfl 2 rfl ?_
      refine z_aload_n F dX7_faultOf_5 rfl 0 rfl ?_
      refine z_get (ci := 7) F iX7 0 rfl rfl 12 (by decide) f0 rfl rfl dX7_faultOf_6 ?_
      refine z_icmp_ge 147 F dX7_faultOf_9 (by decide) (fun c9 => ?_) (fun c9 => ?_)
      · have h := h.1 c9
        refine z_iload_n F dX7_faultOf_147 rfl 1 rfl ?_
        refine z_if_ne 156 F dX7_faultOf_148 (by decide) (fun c9 => ?_) (fun c9 => ?_)
        · have h := h.1 c9
          refine z_aload_n F dX7_faultOf_156 rfl 0 rfl ?_
          refine z_get (ci := 7) F iX7 0 rfl rfl 12 (by decide) f0 rfl rfl dX7_faultOf_157 ?_
          exact hret (Mo_signs vm) vm _ _ h dX7_faultOf_160
        · have h := h.2 c9
          refine z_bipush (v := -6) F dX7_faultOf_151 rfl ?_
          refine z_goto 160 F dX7_faultOf_153 (by decide) ?_
          exact hret (-6 : Int32) vm _ _ h dX7_faultOf_160
      · have h := h.2 c9
        refine z_aload_n F dX7_faultOf_12 rfl 0 rfl ?_
        refine z_get (ci := 7) F iX7 0 rfl rfl 13 (by decide) f1 rfl rfl dX7_faultOf_13 ?_
        refine z_iload_n F dX7_faultOf_16 rfl 2 rfl ?_
        have h9 := h.1
        have h := h.2
        refine z_iald F 7 rfl h9 dX7_faultOf_17 ?_
        refine z_topi (fun x3_1 e9 => ?_)
        have h := h x3_1 e9
        refine z_istore_n [(3, .int x3_1), (0, .ref (a 0)), (1, .int x1), (2, .int x2)] F dX7_faultOf_18 rfl (by decide) rfl ?_
        refine z_iload_n F dX7_faultOf_19 rfl 0 rfl ?_
        refine z_callSi (fun _ => w_Mo G a vm) F (mX7_colourOf G x3_1 _ h) gX7_faultOf_X7_colourOf rfl hdX7_colourOf ⟨rfl, rfl, Nat.le_of_ble_eq_true rfl, Nat.le_of_ble_eq_true rfl, Nat.le_of_ble_eq_true rfl, Nat.le_of_ble_eq_true rfl⟩ [] [0, 1, 2, 3, 4, 5, 6, 7, 8, 9, 10, 11, 12, 13, 14, 15, 16] [0, 1, 2, 3, 4, 5, 6, 7, 8, 9, 10, 11, 12, 13, 14, 15, 16] rfl rfl (by decide) (fun _ => rfl) rfl (Nat.le_of_ble_eq_true rfl) dX7_faultOf_20 (fun r_2 u9 h => ?_)
        refine z_if_ge 61 F dX7_faultOf_23 (by decide) (fun c9 => ?_) (fun c9 => ?_)
        · have h := h.1 c9
          exact z_lv [1, 2, 3, 0] rfl (t61 K4 ih4 vm x1 x2 x3_1 h)
        · have h := h.2 c9
          refine z_iload_n F dX7_faultOf_26 rfl 0 rfl ?_
          refine z_bipush (v := 65) F dX7_faultOf_27 rfl ?_
          refine z_bipush (v := 70) F dX7_faultOf_29 rfl ?_
          refine z_callSi (fun _ => w_Mo G a vm) F (mX7_in G x3_1 (65 : Int32) (70 : Int32) _ h) gX7_faultOf_X7_in rfl hdX7_in ⟨rfl, rfl, Nat.le_of_ble_eq_true rfl, Nat.le_of_ble_eq_true rfl, Nat.le_of_ble_eq_true rfl, Nat.le_of_ble_eq_true rfl⟩ [] [0, 1, 2, 3, 4, 5, 6, 7, 8, 9, 10, 11, 12, 13, 14, 15, 16] [0, 1, 2, 3, 4, 5, 6, 7, 8, 9, 10, 11, 12, 13, 14, 15, 16] rfl rfl (by decide) (fun _ => rfl) rfl (Nat.le_of_ble_eq_true rfl) dX7_faultOf_31 (fun r_3 u9 h => ?_)
          refine z_if_ne 61 F dX7_faultOf_34 (by decide) (fun c9 => ?_) (fun c9 => ?_)
          · have h := h.1 c9
            exact z_lv [1, 2, 3, 0] rfl (t61 K4 ih4 vm x1 x2 x3_1 h)
          · have h := h.2 c9
            refine z_iload_n F dX7_faultOf_37 rfl 0 rfl ?_
            refine z_bipush (v := 102) F dX7_faultOf_38 rfl ?_
            refine z_icmp_eq 61 F dX7_faultOf_40 (by decide) (fun c9 => ?_) (fun c9 => ?_)
            · have h := h.1 c9
              exact z_lv [1, 2, 3, 0] rfl (t61 K4 ih4 vm x1 x2 x3_1 h)
            · have h := h.2 c9
              refine z_iload_n F dX7_faultOf_43 rfl 0 rfl ?_
              refine z_bipush (v := 115) F dX7_faultOf_44 rfl ?_
              refine z_icmp_eq 61 F dX7_faultOf_46 (by decide) (fun c9 => ?_) (fun c9 => ?_)
              · have h := h.1 c9
                exact z_lv [1, 2, 3, 0] rfl (t61 K4 ih4 vm x1 x2 x3_1 h)
              · have h := h.2 c9
                refine z_iload_n F dX7_faultOf_49 rfl 0 rfl ?_
                refine z_bipush (v := 119) F dX7_faultOf_50 rfl ?_
                refine z_icmp_eq 61 F dX7_faultOf_52 (by decide) (fun c9 => ?_) (fun c9 => ?_)
                · have h := h.1 c9
                  exact z_lv [1, 2, 3, 0] rfl (t61 K4 ih4 vm x1 x2 x3_1 h)
                · have h := h.2 c9
                  refine z_iload_n F dX7_faultOf_55 rfl 0 rfl ?_
                  refine z_bipush (v := 46) F dX7_faultOf_56 rfl ?_
                  refine z_icmp_ne 65 F dX7_faultOf_58 (by decide) (fun c9 => ?_) (fun c9 => ?_)
                  · have h := h.1 c9
                    refine z_iconst (v := 0) F dX7_faultOf_65 rfl ?_
                    exact z_lv [1, 2, 3, 0] rfl (t66 K4 ih4 vm x1 x2 x3_1 (0 : Int32) h)
                  · have h := h.2 c9
                    exact z_lv [1, 2, 3, 0] rfl (t61 K4 ih4 vm x1 x2 x3_1 h)
  unfold wpX7_faultOf at h
  refine z_iconst (v := 0) F dX7_faultOf_0 rfl ?_
  refine z_istore_n [(1, .int (0 : Int32)), (0, .ref (a 0))] F dX7_faultOf_1 rfl (by decide) rfl ?_
  refine z_iconst (v := 0) F dX7_faultOf_2 rfl ?_
  refine z_istore_n [(2, .int (0 : Int32)), (1, .int (0 : Int32)), (0, .ref (a 0))] F dX7_faultOf_3 rfl (by decide) rfl ?_
  obtain ⟨n9, h⟩ := h
  exact z_lv [2, 1, 0] rfl (t4 n9 vm (0 : Int32) (0 : Int32) h)
abbrev rmX7_fault : Room := { frames := 2, cells := 0, slots := 0, locals := 47 }
set_option maxRecDepth 100000 in
set_option maxHeartbeats 4000000 in
theorem mX7_fault (G : ZG) (a : Nat → Nat) (vm : Mo) (Q : Int32 → Mo → Prop) (h : wpX7_fault vm Q) : ZMi G yX7_fault wsX7_fault rmX7_fault [.ref (a 0)] (w_Mo G a vm) (fun vm : Mo => w_Mo G a vm) (Q) := by
  refine z_ofi (cc := cX7_fault) (N := 1) (lv := [(0, .ref (a 0))]) (by decide) rfl (Nat.le_of_ble_eq_true rfl) rfl (fun E F hret => ?_)
  have F : ZF E 1 cX7_fault RX7 wsX7_fault rmX7_fault G := F
  unfold wpX7_fault at h
  refine z_aload_n F dX7_fault_0 rfl 0 rfl ?_
  refine z_callVi (fun u9 => w_Mo G a u9) F (mX7_faultOf G a vm _ h) gX7_fault_X7_faultOf rfl hdX7_faultOf ⟨rfl, rfl, Nat.le_of_ble_eq_true rfl, Nat.le_of_ble_eq_true rfl, Nat.le_of_ble_eq_true rfl, Nat.le_of_ble_eq_true rfl⟩ 0 rfl rfl [0, 1, 2, 3, 4, 5, 6, 7, 8, 9, 10, 11, 12, 13, 14, 15, 16] [] [0, 1, 2, 3, 4, 5, 6, 7, 8, 9, 10, 11, 12, 13, 14, 15, 16] rfl rfl (by decide) (fun _ => rfl) rfl (Nat.le_of_ble_eq_true rfl) dX7_fault_1 (fun r_1 vm_2 h => ?_)
  exact hret r_1 vm_2 _ _ h dX7_fault_4
abbrev rmX7_asNow : Room := { frames := 0, cells := 0, slots := 0, locals := 0 }
set_option maxRecDepth 100000 in
set_option maxHeartbeats 4000000 in
theorem mX7_asNow (G : ZG) (a : Nat → Nat) (vm : Mo) (Q : Mo → Prop) (h : wpX7_asNow vm Q) : ZMv G yX7_asNow wsX7_asNow rmX7_asNow [.ref (a 0)] (w_Mo G a vm) (fun vm : Mo => w_Mo G a vm) (Q) := by
  refine z_ofv (cc := cX7_asNow) (N := 2) (lv := [(0, .ref (a 0))]) (by decide) rfl (Nat.le_of_ble_eq_true rfl) rfl (fun E F hret => ?_)
  have F : ZF E 2 cX7_asNow RX7 wsX7_asNow rmX7_asNow G := F
  have f0 : ZW E (.fieldLink RX7 35 "ColourEchoModel" "shown" "[I") := F.at 1 rfl
  have f1 : ZW E (.fieldLink RX7 23 "ColourEchoModel" "shownToday" "[I") := F.at 2 rfl
  have f2 : ZW E (.fieldLink RX7 38 "ColourEchoModel" "then" "[I") := F.at 3 rfl
  have f3 : ZW E (.fieldLink RX7 26 "ColourEchoModel" "past" "[I") := F.at 4 rfl
  have f4 : ZW E (.fieldLink RX7 78 "ColourEchoModel" "fog" "I") := F.at 7 rfl
  have f5 : ZW E (.fieldLink RX7 81 "ColourEchoModel" "fogNow" "I") := F.at 8 rfl
  have f6 : ZW E (.fieldLink RX7 84 "ColourEchoModel" "snow" "I") := F.at 9 rfl
  have f7 : ZW E (.fieldLink RX7 87 "ColourEchoModel" "snowNow" "I") := F.at 10 rfl
  have f8 : ZW E (.fieldLink RX7 90 "ColourEchoModel" "out" "I") := F.at 11 rfl
  have f9 : ZW E (.fieldLink RX7 93 "ColourEchoModel" "outNow" "I") := F.at 12 rfl
  have f10 : ZW E (.fieldLink RX7 96 "ColourEchoModel" "day" "I") := F.at 13 rfl
  have f11 : ZW E (.fieldLink RX7 99 "ColourEchoModel" "dayNow" "I") := F.at 14 rfl
  have f12 : ZW E (.fieldLink RX7 41 "ColourEchoModel" "keep" "[I") := F.at 5 rfl
  have f13 : ZW E (.fieldLink RX7 13 "ColourEchoModel" "keeps" "[I") := F.at 6 rfl
  have iX7 : ∀ x ∈ u_ws RX7 TX7 30, x ∈ wsX7_asNow := fun _ h => List.mem_cons_of_mem _ (List.mem_append_right _ h)
  have t53 : ∀ (n : Nat) (vm : Mo) (x1 : Int32), wpX7_asNow_L53 Q n vm x1 → Z E 2 0 0 (w_Mo G a vm) [(0, .ref (a 0)), (1, .int x1)] 53 [] := by
    intro n
    induction n with
    | zero => intro vm x1 h; exact h.elim
    | succ n ihQ =>
      have ih53 : ∀ (vm : Mo) (x1 : Int32), wpX7_asNow_L53 Q n vm x1 → Z E 2 0 0 (w_Mo G a vm) [(0, .ref (a 0)), (1, .int x1)] 53 [] := ihQ
      intro vm x1 h
      have h : wpX7_asNow_H53 Q (wpX7_asNow_L53 Q n) vm x1 := h
      generalize wpX7_asNow_L53 Q n = K53 at h ih53
      clear ihQ
      unfold wpX7_asNow_H53 at h
      refine z_iload_n F dX7_asNow_53 rfl 1 rfl ?_
      refine z_iconst (v := 4) F dX7_asNow_54 rfl ?_
      refine z_icmp_ge 76 F dX7_asNow_55 (by decide) (fun c9 => ?_) (fun c9 => ?_)
      · have h := h.1 c9
        refine z_aload_n F dX7_asNow_76 rfl 0 rfl ?_
        refine z_aload_n F dX7_asNow_77 rfl 0 rfl ?_
        refine z_get (ci := 7) F iX7 0 rfl rfl 6 (by decide) f4 rfl rfl dX7_asNow_78 ?_
        refine z_put (ci := 7) (ty := .int) (w_Mo G a (Mo_s_fogNow vm (Mo_fog vm))) F iX7 tyX7 tyX7_ok nmX7 0 rfl rfl 17 (by decide) f5 rfl rfl rfl rfl rfl (Nat.le_of_ble_eq_true rfl) rfl dX7_asNow_81 ?_
        refine z_aload_n F dX7_asNow_84 rfl 0 rfl ?_
        refine z_aload_n F dX7_asNow_85 rfl 0 rfl ?_
        refine z_get (ci := 7) (v := .int (Mo_snow vm)) F iX7 0 rfl rfl 7 (by decide) f6 rfl rfl dX7_asNow_86 ?_
        refine z_put (ci := 7) (ty := .int) (w_Mo G a (Mo_s_snowNow (Mo_s_fogNow vm (Mo_fog vm)) (Mo_snow vm))) F iX7 tyX7 tyX7_ok nmX7 0 rfl rfl 18 (by decide) f7 rfl rfl rfl rfl rfl (Nat.le_of_ble_eq_true rfl) rfl dX7_asNow_89 ?_
        refine z_aload_n F dX7_asNow_92 rfl 0 rfl ?_
        refine z_aload_n F dX7_asNow_93 rfl 0 rfl ?_
        refine z_get (ci := 7) (v := .int (Mo_out vm)) F iX7 0 rfl rfl 8 (by decide) f8 rfl rfl dX7_asNow_94 ?_
        refine z_put (ci := 7) (ty := .int) (w_Mo G a (Mo_s_outNow (Mo_s_snowNow (Mo_s_fogNow vm (Mo_fog vm)) (Mo_snow vm)) (Mo_out vm))) F iX7 tyX7 tyX7_ok nmX7 0 rfl rfl 19 (by decide) f9 rfl rfl rfl rfl rfl (Nat.le_of_ble_eq_true rfl) rfl dX7_asNow_97 ?_
        refine z_aload_n F dX7_asNow_100 rfl 0 rfl ?_
        refine z_aload_n F dX7_asNow_101 rfl 0 rfl ?_
        refine z_get (ci := 7) (v := .int (Mo_day vm)) F iX7 0 rfl rfl 4 (by decide) f10 rfl rfl dX7_asNow_102 ?_
        refine z_put (ci := 7) (ty := .int) (w_Mo G a (Mo_s_dayNow (Mo_s_outNow (Mo_s_snowNow (Mo_s_fogNow vm (Mo_fog vm)) (Mo_snow vm)) (Mo_out vm)) (Mo_day vm))) F iX7 tyX7 tyX7_ok nmX7 0 rfl rfl 20 (by decide) f11 rfl rfl rfl rfl rfl (Nat.le_of_ble_eq_true rfl) rfl dX7_asNow_105 ?_
        exact hret (Mo_s_dayNow (Mo_s_outNow (Mo_s_snowNow (Mo_s_fogNow vm (Mo_fog vm)) (Mo_snow vm)) (Mo_out vm)) (Mo_day vm)) _ _ h dX7_asNow_108
      · have h := h.2 c9
        refine z_aload_n F dX7_asNow_58 rfl 0 rfl ?_
        refine z_get (ci := 7) F iX7 0 rfl rfl 16 (by decide) f12 rfl rfl dX7_asNow_59 ?_
        refine z_iload_n F dX7_asNow_62 rfl 1 rfl ?_
        refine z_aload_n F dX7_asNow_63 rfl 0 rfl ?_
        refine z_get (ci := 7) F iX7 0 rfl rfl 1 (by decide) f13 rfl rfl dX7_asNow_64 ?_
        refine z_iload_n F dX7_asNow_67 rfl 1 rfl ?_
        have h9 := h.1
        have h := h.2
        refine z_iald F 2 rfl h9 dX7_asNow_68 ?_
        have h9 := h.1
        have h := h.2
        refine z_iast (w_Mo G a (Mo_s_keep vm (upd (Mo_keep vm) (x1).toNatClampNeg ((Mo_keeps vm) (x1).toNatClampNeg)))) F 10 rfl h9 rfl dX7_asNow_69 ?_
        obtain ⟨x1_3, e9⟩ : ∃ z : Int32, z = x1 + 1 := ⟨_, rfl⟩
        have h := h x1_3 e9
        refine z_iinc (v := x1_3) [(1, .int x1_3), (0, .ref (a 0))] F dX7_asNow_70 1 rfl (by rw [e9]; rfl) (by decide) rfl ?_
        refine z_goto 53 F dX7_asNow_73 (by decide) ?_
        exact z_lv [1, 0] rfl (ih53 (Mo_s_keep vm (upd (Mo_keep vm) (x1).toNatClampNeg ((Mo_keeps vm) (x1).toNatClampNeg))) x1_3 h)
  have t27 : ∀ (n : Nat) (vm : Mo) (x1 : Int32), wpX7_asNow_L27 Q n vm x1 → Z E 2 0 0 (w_Mo G a vm) [(0, .ref (a 0)), (1, .int x1)] 27 [] := by
    intro n
    induction n with
    | zero => intro vm x1 h; exact h.elim
    | succ n ihQ =>
      have ih27 : ∀ (vm : Mo) (x1 : Int32), wpX7_asNow_L27 Q n vm x1 → Z E 2 0 0 (w_Mo G a vm) [(0, .ref (a 0)), (1, .int x1)] 27 [] := ihQ
      intro vm x1 h
      have h : wpX7_asNow_H27 Q (wpX7_asNow_L27 Q n) vm x1 := h
      generalize wpX7_asNow_L27 Q n = K27 at h ih27
      clear ihQ
      unfold wpX7_asNow_H27 at h
      refine z_iload_n F dX7_asNow_27 rfl 1 rfl ?_
      refine z_bipush (v := 27) F dX7_asNow_28 rfl ?_
      refine z_icmp_ge 51 F dX7_asNow_30 (by decide) (fun c9 => ?_) (fun c9 => ?_)
      · have h := h.1 c9
        refine z_iconst (v := 0) F dX7_asNow_51 rfl ?_
        refine z_istore_n [(1, .int (0 : Int32)), (0, .ref (a 0))] F dX7_asNow_52 rfl (by decide) rfl ?_
        obtain ⟨n9, h⟩ := h
        exact z_lv [1, 0] rfl (t53 n9 vm (0 : Int32) h)
      · have h := h.2 c9
        refine z_aload_n F dX7_asNow_33 rfl 0 rfl ?_
        refine z_get (ci := 7) F iX7 0 rfl rfl 15 (by decide) f2 rfl rfl dX7_asNow_34 ?_
        refine z_iload_n F dX7_asNow_37 rfl 1 rfl ?_
        refine z_aload_n F dX7_asNow_38 rfl 0 rfl ?_
        refine z_get (ci := 7) F iX7 0 rfl rfl 9 (by decide) f3 rfl rfl dX7_asNow_39 ?_
        refine z_iload_n F dX7_asNow_42 rfl 1 rfl ?_
        have h9 := h.1
        have h := h.2
        refine z_iald F 5 rfl h9 dX7_asNow_43 ?_
        have h9 := h.1
        have h := h.2
        refine z_iast (w_Mo G a (Mo_s_then vm (upd (Mo_then vm) (x1).toNatClampNeg ((Mo_past vm) (x1).toNatClampNeg)))) F 9 rfl h9 rfl dX7_asNow_44 ?_
        obtain ⟨x1_2, e9⟩ : ∃ z : Int32, z = x1 + 1 := ⟨_, rfl⟩
        have h := h x1_2 e9
        refine z_iinc (v := x1_2) [(1, .int x1_2), (0, .ref (a 0))] F dX7_asNow_45 1 rfl (by rw [e9]; rfl) (by decide) rfl ?_
        refine z_goto 27 F dX7_asNow_48 (by decide) ?_
        exact z_lv [1, 0] rfl (ih27 (Mo_s_then vm (upd (Mo_then vm) (x1).toNatClampNeg ((Mo_past vm) (x1).toNatClampNeg))) x1_2 h)
  have t2 : ∀ (n : Nat) (vm : Mo) (x1 : Int32), wpX7_asNow_L2 Q n vm x1 → Z E 2 0 0 (w_Mo G a vm) [(0, .ref (a 0)), (1, .int x1)] 2 [] := by
    intro n
    induction n with
    | zero => intro vm x1 h; exact h.elim
    | succ n ihQ =>
      have ih2 : ∀ (vm : Mo) (x1 : Int32), wpX7_asNow_L2 Q n vm x1 → Z E 2 0 0 (w_Mo G a vm) [(0, .ref (a 0)), (1, .int x1)] 2 [] := ihQ
      intro vm x1 h
      have h : wpX7_asNow_H2 Q (wpX7_asNow_L2 Q n) vm x1 := h
      generalize wpX7_asNow_L2 Q n = K2 at h ih2
      clear ihQ
      unfold wpX7_asNow_H2 at h
      refine z_iload_n F dX7_asNow_2 rfl 1 rfl ?_
      refine z_iconst (v := 3) F dX7_asNow_3 rfl ?_
      refine z_icmp_ge 25 F dX7_asNow_4 (by decide) (fun c9 => ?_) (fun c9 => ?_)
      · have h := h.1 c9
        refine z_iconst (v := 0) F dX7_asNow_25 rfl ?_
        refine z_istore_n [(1, .int (0 : Int32)), (0, .ref (a 0))] F dX7_asNow_26 rfl (by decide) rfl ?_
        obtain ⟨n9, h⟩ := h
        exact z_lv [1, 0] rfl (t27 n9 vm (0 : Int32) h)
      · have h := h.2 c9
        refine z_aload_n F dX7_asNow_7 rfl 0 rfl ?_
        refine z_get (ci := 7) F iX7 0 rfl rfl 14 (by decide) f0 rfl rfl dX7_asNow_8 ?_
        refine z_iload_n F dX7_asNow_11 rfl 1 rfl ?_
        refine z_aload_n F dX7_asNow_12 rfl 0 rfl ?_
        refine z_get (ci := 7) F iX7 0 rfl rfl 5 (by decide) f1 rfl rfl dX7_asNow_13 ?_
        refine z_iload_n F dX7_asNow_16 rfl 1 rfl ?_
        have h9 := h.1
        have h := h.2
        refine z_iald F 4 rfl h9 dX7_asNow_17 ?_
        have h9 := h.1
        have h := h.2
        refine z_iast (w_Mo G a (Mo_s_shown vm (upd (Mo_shown vm) (x1).toNatClampNeg ((Mo_shownToday vm) (x1).toNatClampNeg)))) F 8 rfl h9 rfl dX7_asNow_18 ?_
        obtain ⟨x1_1, e9⟩ : ∃ z : Int32, z = x1 + 1 := ⟨_, rfl⟩
        have h := h x1_1 e9
        refine z_iinc (v := x1_1) [(1, .int x1_1), (0, .ref (a 0))] F dX7_asNow_19 1 rfl (by rw [e9]; rfl) (by decide) rfl ?_
        refine z_goto 2 F dX7_asNow_22 (by decide) ?_
        exact z_lv [1, 0] rfl (ih2 (Mo_s_shown vm (upd (Mo_shown vm) (x1).toNatClampNeg ((Mo_shownToday vm) (x1).toNatClampNeg))) x1_1 h)
  unfold wpX7_asNow at h
  refine z_iconst (v := 0) F dX7_asNow_0 rfl ?_
  refine z_istore_n [(1, .int (0 : Int32)), (0, .ref (a 0))] F dX7_asNow_1 rfl (by decide) rfl ?_
  obtain ⟨n9, h⟩ := h
  exact z_lv [1, 0] rfl (t2 n9 vm (0 : Int32) h)
abbrev rmX7_empty : Room := { frames := 1, cells := 0, slots := 0, locals := 21 }
set_option maxRecDepth 100000 in
set_option maxHeartbeats 4000000 in
theorem mX7_empty (G : ZG) (a : Nat → Nat) (vm : Mo) (Q : Mo → Prop) (h : wpX7_empty vm Q) : ZMv G yX7_empty wsX7_empty rmX7_empty [.ref (a 0)] (w_Mo G a vm) (fun vm : Mo => w_Mo G a vm) (Q) := by
  refine z_ofv (cc := cX7_empty) (N := 2) (lv := [(0, .ref (a 0))]) (by decide) rfl (Nat.le_of_ble_eq_true rfl) rfl (fun E F hret => ?_)
  have F : ZF E 2 cX7_empty RX7 wsX7_empty rmX7_empty G := F
  have f0 : ZW E (.fieldLink RX7 35 "ColourEchoModel" "shown" "[I") := F.at 1 rfl
  have f1 : ZW E (.fieldLink RX7 81 "ColourEchoModel" "fogNow" "I") := F.at 3 rfl
  have f2 : ZW E (.fieldLink RX7 87 "ColourEchoModel" "snowNow" "I") := F.at 4 rfl
  have f3 : ZW E (.fieldLink RX7 38 "ColourEchoModel" "then" "[I") := F.at 2 rfl
  have iX7 : ∀ x ∈ u_ws RX7 TX7 30, x ∈ wsX7_empty := fun _ h => List.mem_cons_of_mem _ (List.mem_append_right _ h)
  have t26 : ∀ (n : Nat) (vm : Mo) (x1 : Int32), wpX7_empty_L26 Q n vm x1 → Z E 2 0 0 (w_Mo G a vm) [(0, .ref (a 0)), (1, .int x1)] 26 [] := by
    intro n
    induction n with
    | zero => intro vm x1 h; exact h.elim
    | succ n ihQ =>
      have ih26 : ∀ (vm : Mo) (x1 : Int32), wpX7_empty_L26 Q n vm x1 → Z E 2 0 0 (w_Mo G a vm) [(0, .ref (a 0)), (1, .int x1)] 26 [] := ihQ
      intro vm x1 h
      have h : wpX7_empty_H26 Q (wpX7_empty_L26 Q n) vm x1 := h
      generalize wpX7_empty_L26 Q n = K26 at h ih26
      clear ihQ
      unfold wpX7_empty_H26 at h
      refine z_iload_n F dX7_empty_26 rfl 1 rfl ?_
      refine z_bipush (v := 27) F dX7_empty_27 rfl ?_
      refine z_icmp_ge 45 F dX7_empty_29 (by decide) (fun c9 => ?_) (fun c9 => ?_)
      · have h := h.1 c9
        refine z_aload_n F dX7_empty_45 rfl 0 rfl ?_
        refine z_iconst (v := 0) F dX7_empty_46 rfl ?_
        refine z_put (ci := 7) (ty := .int) (w_Mo G a (Mo_s_fogNow vm (0 : Int32))) F iX7 tyX7 tyX7_ok nmX7 0 rfl rfl 17 (by decide) f1 rfl rfl rfl rfl rfl (Nat.le_of_ble_eq_true rfl) rfl dX7_empty_47 ?_
        refine z_aload_n F dX7_empty_50 rfl 0 rfl ?_
        refine z_iconst (v := 0) F dX7_empty_51 rfl ?_
        refine z_put (ci := 7) (ty := .int) (w_Mo G a (Mo_s_snowNow (Mo_s_fogNow vm (0 : Int32)) (0 : Int32))) F iX7 tyX7 tyX7_ok nmX7 0 rfl rfl 18 (by decide) f2 rfl rfl rfl rfl rfl (Nat.le_of_ble_eq_true rfl) rfl dX7_empty_52 ?_
        exact hret (Mo_s_snowNow (Mo_s_fogNow vm (0 : Int32)) (0 : Int32)) _ _ h dX7_empty_55
      · have h := h.2 c9
        refine z_aload_n F dX7_empty_32 rfl 0 rfl ?_
        refine z_get (ci := 7) F iX7 0 rfl rfl 15 (by decide) f3 rfl rfl dX7_empty_33 ?_
        refine z_iload_n F dX7_empty_36 rfl 1 rfl ?_
        refine z_iconst (v := 0) F dX7_empty_37 rfl ?_
        have h9 := h.1
        have h := h.2
        refine z_iast (w_Mo G a (Mo_s_then vm (upd (Mo_then vm) (x1).toNatClampNeg (0 : Int32)))) F 9 rfl h9 rfl dX7_empty_38 ?_
        obtain ⟨x1_3, e9⟩ : ∃ z : Int32, z = x1 + 1 := ⟨_, rfl⟩
        have h := h x1_3 e9
        refine z_iinc (v := x1_3) [(1, .int x1_3), (0, .ref (a 0))] F dX7_empty_39 1 rfl (by rw [e9]; rfl) (by decide) rfl ?_
        refine z_goto 26 F dX7_empty_42 (by decide) ?_
        exact z_lv [1, 0] rfl (ih26 (Mo_s_then vm (upd (Mo_then vm) (x1).toNatClampNeg (0 : Int32))) x1_3 h)
  have t6 : ∀ (n : Nat) (vm : Mo) (x1 : Int32), wpX7_empty_L6 Q n vm x1 → Z E 2 0 0 (w_Mo G a vm) [(0, .ref (a 0)), (1, .int x1)] 6 [] := by
    intro n
    induction n with
    | zero => intro vm x1 h; exact h.elim
    | succ n ihQ =>
      have ih6 : ∀ (vm : Mo) (x1 : Int32), wpX7_empty_L6 Q n vm x1 → Z E 2 0 0 (w_Mo G a vm) [(0, .ref (a 0)), (1, .int x1)] 6 [] := ihQ
      intro vm x1 h
      have h : wpX7_empty_H6 Q (wpX7_empty_L6 Q n) vm x1 := h
      generalize wpX7_empty_L6 Q n = K6 at h ih6
      clear ihQ
      unfold wpX7_empty_H6 at h
      refine z_iload_n F dX7_empty_6 rfl 1 rfl ?_
      refine z_iconst (v := 3) F dX7_empty_7 rfl ?_
      refine z_icmp_ge 24 F dX7_empty_8 (by decide) (fun c9 => ?_) (fun c9 => ?_)
      · have h := h.1 c9
        refine z_iconst (v := 0) F dX7_empty_24 rfl ?_
        refine z_istore_n [(1, .int (0 : Int32)), (0, .ref (a 0))] F dX7_empty_25 rfl (by decide) rfl ?_
        obtain ⟨n9, h⟩ := h
        exact z_lv [1, 0] rfl (t26 n9 vm (0 : Int32) h)
      · have h := h.2 c9
        refine z_aload_n F dX7_empty_11 rfl 0 rfl ?_
        refine z_get (ci := 7) F iX7 0 rfl rfl 14 (by decide) f0 rfl rfl dX7_empty_12 ?_
        refine z_iload_n F dX7_empty_15 rfl 1 rfl ?_
        refine z_iconst (v := 0) F dX7_empty_16 rfl ?_
        have h9 := h.1
        have h := h.2
        refine z_iast (w_Mo G a (Mo_s_shown vm (upd (Mo_shown vm) (x1).toNatClampNeg (0 : Int32)))) F 8 rfl h9 rfl dX7_empty_17 ?_
        obtain ⟨x1_2, e9⟩ : ∃ z : Int32, z = x1 + 1 := ⟨_, rfl⟩
        have h := h x1_2 e9
        refine z_iinc (v := x1_2) [(1, .int x1_2), (0, .ref (a 0))] F dX7_empty_18 1 rfl (by rw [e9]; rfl) (by decide) rfl ?_
        refine z_goto 6 F dX7_empty_21 (by decide) ?_
        exact z_lv [1, 0] rfl (ih6 (Mo_s_shown vm (upd (Mo_shown vm) (x1).toNatClampNeg (0 : Int32))) x1_2 h)
  unfold wpX7_empty at h
  refine z_aload_n F dX7_empty_0 rfl 0 rfl ?_
  refine z_callVv (fun u9 => w_Mo G a u9) F (mX7_asNow G a vm _ h) gX7_empty_X7_asNow rfl hdX7_asNow ⟨rfl, rfl, Nat.le_of_ble_eq_true rfl, Nat.le_of_ble_eq_true rfl, Nat.le_of_ble_eq_true rfl, Nat.le_of_ble_eq_true rfl⟩ 0 rfl rfl [0, 1, 2, 3, 4, 5, 6, 7, 8, 9, 10, 11, 12, 13, 14, 15, 16] [] [0, 1, 2, 3, 4, 5, 6, 7, 8, 9, 10, 11, 12, 13, 14, 15, 16] rfl rfl (by decide) (fun _ => rfl) rfl (Nat.le_of_ble_eq_true rfl) dX7_empty_1 (fun vm_1 h => ?_)
  refine z_iconst (v := 0) F dX7_empty_4 rfl ?_
  refine z_istore_n [(1, .int (0 : Int32)), (0, .ref (a 0))] F dX7_empty_5 rfl (by decide) rfl ?_
  obtain ⟨n9, h⟩ := h
  exact z_lv [1, 0] rfl (t6 n9 vm_1 (0 : Int32) h)
abbrev rmX7_see : Room := { frames := 0, cells := 0, slots := 0, locals := 0 }
set_option maxRecDepth 100000 in
set_option maxHeartbeats 4000000 in
theorem mX7_see (G : ZG) (a : Nat → Nat) (vm : Mo) (p1 : Int32) (Q : Int32 → Mo → Prop) (h : wpX7_see vm p1 Q) : ZMi G yX7_see wsX7_see rmX7_see [.ref (a 0), .int p1] (w_Mo G a vm) (fun vm : Mo => w_Mo G a vm) (Q) := by
  refine z_ofi (cc := cX7_see) (N := 4) (lv := [(0, .ref (a 0)), (1, .int p1)]) (by decide) rfl (Nat.le_of_ble_eq_true rfl) rfl (fun E F hret => ?_)
  have F : ZF E 4 cX7_see RX7 wsX7_see rmX7_see G := F
  have f0 : ZW E (.fieldLink RX7 35 "ColourEchoModel" "shown" "[I") := F.at 1 rfl
  have f1 : ZW E (.fieldLink RX7 81 "ColourEchoModel" "fogNow" "I") := F.at 2 rfl
  have f2 : ZW E (.fieldLink RX7 87 "ColourEchoModel" "snowNow" "I") := F.at 3 rfl
  have f3 : ZW E (.fieldLink RX7 41 "ColourEchoModel" "keep" "[I") := F.at 4 rfl
  have f4 : ZW E (.fieldLink RX7 38 "ColourEchoModel" "then" "[I") := F.at 5 rfl
  have f5 : ZW E (.fieldLink RX7 7 "ColourEchoModel" "off" "[I") := F.at 6 rfl
  have iX7 : ∀ x ∈ u_ws RX7 TX7 30, x ∈ wsX7_see := fun _ h => List.mem_cons_of_mem _ (List.mem_append_right _ h)
  have t63 : ∀ (vm : Mo) (x2 : Int32), wpX7_see_B63 Q vm x2 → Z E 4 0 0 (w_Mo G a vm) [(2, .int x2)] 63 [] := by
    intro vm x2 h
    unfold wpX7_see_B63 at h
    refine z_iload_n F dX7_see_63 rfl 0 rfl ?_
    refine z_sipush (v := 999) F dX7_see_64 rfl ?_
    refine z_icmp_le 76 F dX7_see_67 (by decide) (fun c9 => ?_) (fun c9 => ?_)
    · have h := h.1 c9
      refine z_iload_n F dX7_see_76 rfl 0 rfl ?_
      exact hret x2 vm _ _ h dX7_see_77
    · have h := h.2 c9
      refine z_sipush (v := 999) F dX7_see_70 rfl ?_
      refine z_goto 77 F dX7_see_73 (by decide) ?_
      exact hret (999 : Int32) vm _ _ h dX7_see_77
  have t9 : ∀ (n : Nat) (vm : Mo) (x1 : Int32) (x2 : Int32) (x3 : Int32), wpX7_see_L9 Q n vm x1 x2 x3 → Z E 4 0 0 (w_Mo G a vm) [(0, .ref (a 0)), (1, .int x1), (2, .int x2), (3, .int x3)] 9 [] := by
    intro n
    induction n with
    | zero => intro vm x1 x2 x3 h; exact h.elim
    | succ n ihQ =>
      have ih9 : ∀ (vm : Mo) (x1 : Int32) (x2 : Int32) (x3 : Int32), wpX7_see_L9 Q n vm x1 x2 x3 → Z E 4 0 0 (w_Mo G a vm) [(0, .ref (a 0)), (1, .int x1), (2, .int x2), (3, .int x3)] 9 [] := ihQ
      intro vm x1 x2 x3 h
      have h : wpX7_see_H9 Q (wpX7_see_L9 Q n) vm x1 x2 x3 := h
      generalize wpX7_see_L9 Q n = K9 at h ih9
      clear ihQ
      unfold wpX7_see_H9 at h
      refine z_iload_n F dX7_see_9 rfl 3 rfl ?_
      refine z_iconst (v := 4) F dX7_see_10 rfl ?_
      refine z_icmp_ge 63 F dX7_see_11 (by decide) (fun c9 => ?_) (fun c9 => ?_)
      · have h := h.1 c9
        exact z_lv [2] rfl (t63 vm x2 h)
      · have h := h.2 c9
        refine z_aload_n F dX7_see_14 rfl 0 rfl ?_
        refine z_get (ci := 7) F iX7 0 rfl rfl 17 (by decide) f1 rfl rfl dX7_see_15 ?_
        refine z_aload_n F dX7_see_18 rfl 0 rfl ?_
        refine z_get (ci := 7) F iX7 0 rfl rfl 18 (by decide) f2 rfl rfl dX7_see_19 ?_
        refine z_iadd F dX7_see_22 ?_
        refine z_if_ne 63 F dX7_see_23 (by decide) (fun c9 => ?_) (fun c9 => ?_)
        · have h := h.1 c9
          exact z_lv [2] rfl (t63 vm x2 h)
        · have h := h.2 c9
          refine z_iload_n F dX7_see_26 rfl 2 rfl ?_
          refine z_aload_n F dX7_see_27 rfl 0 rfl ?_
          refine z_get (ci := 7) F iX7 0 rfl rfl 16 (by decide) f3 rfl rfl dX7_see_28 ?_
          refine z_iload_n F dX7_see_31 rfl 3 rfl ?_
          have h9 := h.1
          have h := h.2
          refine z_iald F 10 rfl h9 dX7_see_32 ?_
          refine z_aload_n F dX7_see_33 rfl 0 rfl ?_
          refine z_get (ci := 7) F iX7 0 rfl rfl 15 (by decide) f4 rfl rfl dX7_see_34 ?_
          refine z_bipush (v := 9) F dX7_see_37 rfl ?_
          refine z_iload_n F dX7_see_39 rfl 1 rfl ?_
          refine z_imul F dX7_see_40 ?_
          refine z_aload_n F dX7_see_41 rfl 0 rfl ?_
          refine z_get (ci := 7) F iX7 0 rfl rfl 0 (by decide) f5 rfl rfl dX7_see_42 ?_
          refine z_iload_n F dX7_see_45 rfl 3 rfl ?_
          have h9 := h.1
          have h := h.2
          refine z_iald F 1 rfl h9 dX7_see_46 ?_
          refine z_iadd F dX7_see_47 ?_
          refine z_iconst (v := 1) F dX7_see_48 rfl ?_
          refine z_isub F dX7_see_49 ?_
          have h9 := h.1
          have h := h.2
          refine z_iald F 9 rfl h9 dX7_see_50 ?_
          refine z_imul F dX7_see_51 ?_
          refine z_bipush (v := 10) F dX7_see_52 rfl ?_
          refine z_idiv F dX7_see_54 (by decide) ?_
          refine z_iadd F dX7_see_55 ?_
          refine z_topi (fun x2_2 e9 => ?_)
          have h := h x2_2 e9
          refine z_istore_n [(2, .int x2_2), (0, .ref (a 0)), (1, .int x1), (3, .int x3)] F dX7_see_56 rfl (by decide) rfl ?_
          obtain ⟨x3_3, e9⟩ : ∃ z : Int32, z = x3 + 1 := ⟨_, rfl⟩
          have h := h x3_3 e9
          refine z_iinc (v := x3_3) [(3, .int x3_3), (2, .int x2_2), (0, .ref (a 0)), (1, .int x1)] F dX7_see_57 3 rfl (by rw [e9]; rfl) (by decide) rfl ?_
          refine z_goto 9 F dX7_see_60 (by decide) ?_
          exact z_lv [2, 3, 1, 0] rfl (ih9 vm x1 x2_2 x3_3 h)
  unfold wpX7_see at h
  refine z_aload_n F dX7_see_0 rfl 0 rfl ?_
  refine z_get (ci := 7) F iX7 0 rfl rfl 14 (by decide) f0 rfl rfl dX7_see_1 ?_
  refine z_iload_n F dX7_see_4 rfl 1 rfl ?_
  have h9 := h.1
  have h := h.2
  refine z_iald F 8 rfl h9 dX7_see_5 ?_
  refine z_topi (fun x2_1 e9 => ?_)
  have h := h x2_1 e9
  refine z_istore_n [(2, .int x2_1), (0, .ref (a 0)), (1, .int p1)] F dX7_see_6 rfl (by decide) rfl ?_
  refine z_iconst (v := 0) F dX7_see_7 rfl ?_
  refine z_istore_n [(3, .int (0 : Int32)), (2, .int x2_1), (0, .ref (a 0)), (1, .int p1)] F dX7_see_8 rfl (by decide) rfl ?_
  obtain ⟨n9, h⟩ := h
  exact z_lv [2, 3, 1, 0] rfl (t9 n9 vm p1 x2_1 (0 : Int32) h)
abbrev rmX7_seeAll : Room := { frames := 1, cells := 0, slots := 0, locals := 23 }
set_option maxRecDepth 100000 in
set_option maxHeartbeats 4000000 in
theorem mX7_seeAll (G : ZG) (a : Nat → Nat) (vm : Mo) (Q : Int32 → Mo → Prop) (h : wpX7_seeAll vm Q) : ZMi G yX7_seeAll wsX7_seeAll rmX7_seeAll [.ref (a 0)] (w_Mo G a vm) (fun vm : Mo => w_Mo G a vm) (Q) := by
  refine z_ofi (cc := cX7_seeAll) (N := 1) (lv := [(0, .ref (a 0))]) (by decide) rfl (Nat.le_of_ble_eq_true rfl) rfl (fun E F hret => ?_)
  have F : ZF E 1 cX7_seeAll RX7 wsX7_seeAll rmX7_seeAll G := F
  unfold wpX7_seeAll at h
  refine z_aload_n F dX7_seeAll_0 rfl 0 rfl ?_
  refine z_iconst (v := 0) F dX7_seeAll_1 rfl ?_
  refine z_callVi (fun u9 => w_Mo G a u9) F (mX7_see G a vm (0 : Int32) _ h) gX7_seeAll_X7_see rfl hdX7_see ⟨rfl, rfl, Nat.le_of_ble_eq_true rfl, Nat.le_of_ble_eq_true rfl, Nat.le_of_ble_eq_true rfl, Nat.le_of_ble_eq_true rfl⟩ 0 rfl rfl [0, 1, 2, 3, 4, 5, 6, 7, 8, 9, 10, 11, 12, 13, 14, 15, 16] [] [0, 1, 2, 3, 4, 5, 6, 7, 8, 9, 10, 11, 12, 13, 14, 15, 16] rfl rfl (by decide) (fun _ => rfl) rfl (Nat.le_of_ble_eq_true rfl) dX7_seeAll_2 (fun r_1 vm_2 h => ?_)
  refine z_aload_n F dX7_seeAll_5 rfl 0 rfl ?_
  refine z_iconst (v := 1) F dX7_seeAll_6 rfl ?_
  refine z_callVi (fun u9 => w_Mo G a u9) F (mX7_see G a vm_2 (1 : Int32) _ h) gX7_seeAll_X7_see rfl hdX7_see ⟨rfl, rfl, Nat.le_of_ble_eq_true rfl, Nat.le_of_ble_eq_true rfl, Nat.le_of_ble_eq_true rfl, Nat.le_of_ble_eq_true rfl⟩ 0 rfl rfl [0, 1, 2, 3, 4, 5, 6, 7, 8, 9, 10, 11, 12, 13, 14, 15, 16] [] [0, 1, 2, 3, 4, 5, 6, 7, 8, 9, 10, 11, 12, 13, 14, 15, 16] rfl rfl (by decide) (fun _ => rfl) rfl (Nat.le_of_ble_eq_true rfl) dX7_seeAll_7 (fun r_3 vm_4 h => ?_)
  refine z_iadd F dX7_seeAll_10 ?_
  refine z_aload_n F dX7_seeAll_11 rfl 0 rfl ?_
  refine z_iconst (v := 2) F dX7_seeAll_12 rfl ?_
  refine z_callVi (fun u9 => w_Mo G a u9) F (mX7_see G a vm_4 (2 : Int32) _ h) gX7_seeAll_X7_see rfl hdX7_see ⟨rfl, rfl, Nat.le_of_ble_eq_true rfl, Nat.le_of_ble_eq_true rfl, Nat.le_of_ble_eq_true rfl, Nat.le_of_ble_eq_true rfl⟩ 0 rfl rfl [0, 1, 2, 3, 4, 5, 6, 7, 8, 9, 10, 11, 12, 13, 14, 15, 16] [] [0, 1, 2, 3, 4, 5, 6, 7, 8, 9, 10, 11, 12, 13, 14, 15, 16] rfl rfl (by decide) (fun _ => rfl) rfl (Nat.le_of_ble_eq_true rfl) dX7_seeAll_13 (fun r_5 vm_6 h => ?_)
  refine z_iadd F dX7_seeAll_16 ?_
  exact hret ((r_1 + r_3) + r_5) vm_6 _ _ h dX7_seeAll_17
abbrev rmX7_isOver : Room := { frames := 1, cells := 0, slots := 0, locals := 23 }
set_option maxRecDepth 100000 in
set_option maxHeartbeats 4000000 in
theorem mX7_isOver (G : ZG) (a : Nat → Nat) (vm : Mo) (Q : Int32 → Mo → Prop) (h : wpX7_isOver vm Q) : ZMi G yX7_isOver wsX7_isOver rmX7_isOver [.ref (a 0)] (w_Mo G a vm) (fun vm : Mo => w_Mo G a vm) (Q) := by
  refine z_ofz (cc := cX7_isOver) (N := 1) (lv := [(0, .ref (a 0))]) (by decide) rfl (Nat.le_of_ble_eq_true rfl) rfl (fun E F hret => ?_)
  have F : ZF E 1 cX7_isOver RX7 wsX7_isOver rmX7_isOver G := F
  have f0 : ZW E (.fieldLink RX7 19 "ColourEchoModel" "limit" "I") := F.at 1 rfl
  have iX7 : ∀ x ∈ u_ws RX7 TX7 30, x ∈ wsX7_isOver := fun _ h => List.mem_cons_of_mem _ (List.mem_append_right _ h)
  unfold wpX7_isOver at h
  refine z_aload_n F dX7_isOver_0 rfl 0 rfl ?_
  refine z_iconst (v := 0) F dX7_isOver_1 rfl ?_
  refine z_callVi (fun u9 => w_Mo G a u9) F (mX7_see G a vm (0 : Int32) _ h) gX7_isOver_X7_see rfl hdX7_see ⟨rfl, rfl, Nat.le_of_ble_eq_true rfl, Nat.le_of_ble_eq_true rfl, Nat.le_of_ble_eq_true rfl, Nat.le_of_ble_eq_true rfl⟩ 0 rfl rfl [0, 1, 2, 3, 4, 5, 6, 7, 8, 9, 10, 11, 12, 13, 14, 15, 16] [] [0, 1, 2, 3, 4, 5, 6, 7, 8, 9, 10, 11, 12, 13, 14, 15, 16] rfl rfl (by decide) (fun _ => rfl) rfl (Nat.le_of_ble_eq_true rfl) dX7_isOver_2 (fun r_1 vm_2 h => ?_)
  refine z_aload_n F dX7_isOver_5 rfl 0 rfl ?_
  refine z_get (ci := 7) F iX7 0 rfl rfl 3 (by decide) f0 rfl rfl dX7_isOver_6 ?_
  refine z_icmp_gt 36 F dX7_isOver_9 (by decide) (fun c9 => ?_) (fun c9 => ?_)
  · have h := h.1 c9
    refine z_iconst (v := 1) F dX7_isOver_36 rfl ?_
    refine z_goto 41 F dX7_isOver_37 (by decide) ?_
    exact hret (1 : Int32) vm_2 _ _ h dX7_isOver_41 (by decide)
  · have h := h.2 c9
    refine z_aload_n F dX7_isOver_12 rfl 0 rfl ?_
    refine z_iconst (v := 1) F dX7_isOver_13 rfl ?_
    refine z_callVi (fun u9 => w_Mo G a u9) F (mX7_see G a vm_2 (1 : Int32) _ h) gX7_isOver_X7_see rfl hdX7_see ⟨rfl, rfl, Nat.le_of_ble_eq_true rfl, Nat.le_of_ble_eq_true rfl, Nat.le_of_ble_eq_true rfl, Nat.le_of_ble_eq_true rfl⟩ 0 rfl rfl [0, 1, 2, 3, 4, 5, 6, 7, 8, 9, 10, 11, 12, 13, 14, 15, 16] [] [0, 1, 2, 3, 4, 5, 6, 7, 8, 9, 10, 11, 12, 13, 14, 15, 16] rfl rfl (by decide) (fun _ => rfl) rfl (Nat.le_of_ble_eq_true rfl) dX7_isOver_14 (fun r_3 vm_4 h => ?_)
    refine z_aload_n F dX7_isOver_17 rfl 0 rfl ?_
    refine z_get (ci := 7) F iX7 0 rfl rfl 3 (by decide) f0 rfl rfl dX7_isOver_18 ?_
    refine z_icmp_gt 36 F dX7_isOver_21 (by decide) (fun c9 => ?_) (fun c9 => ?_)
    · have h := h.1 c9
      refine z_iconst (v := 1) F dX7_isOver_36 rfl ?_
      refine z_goto 41 F dX7_isOver_37 (by decide) ?_
      exact hret (1 : Int32) vm_4 _ _ h dX7_isOver_41 (by decide)
    · have h := h.2 c9
      refine z_aload_n F dX7_isOver_24 rfl 0 rfl ?_
      refine z_iconst (v := 2) F dX7_isOver_25 rfl ?_
      refine z_callVi (fun u9 => w_Mo G a u9) F (mX7_see G a vm_4 (2 : Int32) _ h) gX7_isOver_X7_see rfl hdX7_see ⟨rfl, rfl, Nat.le_of_ble_eq_true rfl, Nat.le_of_ble_eq_true rfl, Nat.le_of_ble_eq_true rfl, Nat.le_of_ble_eq_true rfl⟩ 0 rfl rfl [0, 1, 2, 3, 4, 5, 6, 7, 8, 9, 10, 11, 12, 13, 14, 15, 16] [] [0, 1, 2, 3, 4, 5, 6, 7, 8, 9, 10, 11, 12, 13, 14, 15, 16] rfl rfl (by decide) (fun _ => rfl) rfl (Nat.le_of_ble_eq_true rfl) dX7_isOver_26 (fun r_5 vm_6 h => ?_)
      refine z_aload_n F dX7_isOver_29 rfl 0 rfl ?_
      refine z_get (ci := 7) F iX7 0 rfl rfl 3 (by decide) f0 rfl rfl dX7_isOver_30 ?_
      refine z_icmp_le 40 F dX7_isOver_33 (by decide) (fun c9 => ?_) (fun c9 => ?_)
      · have h := h.1 c9
        refine z_iconst (v := 0) F dX7_isOver_40 rfl ?_
        exact hret (0 : Int32) vm_6 _ _ h dX7_isOver_41 (by decide)
      · have h := h.2 c9
        refine z_iconst (v := 1) F dX7_isOver_36 rfl ?_
        refine z_goto 41 F dX7_isOver_37 (by decide) ?_
        exact hret (1 : Int32) vm_6 _ _ h dX7_isOver_41 (by decide)
abbrev rmX7_pass : Room := { frames := 1, cells := 0, slots := 0, locals := 23 }
set_option maxRecDepth 100000 in
set_option maxHeartbeats 4000000 in
theorem mX7_pass (G : ZG) (a : Nat → Nat) (vm : Mo) (Q : Mo → Prop) (h : wpX7_pass vm Q) : ZMv G yX7_pass wsX7_pass rmX7_pass [.ref (a 0)] (w_Mo G a vm) (fun vm : Mo => w_Mo G a vm) (Q) := by
  refine z_ofv (cc := cX7_pass) (N := 7) (lv := [(0, .ref (a 0))]) (by decide) rfl (Nat.le_of_ble_eq_true rfl) rfl (fun E F hret => ?_)
  have F : ZF E 7 cX7_pass RX7 wsX7_pass rmX7_pass G := F
  have f0 : ZW E (.fieldLink RX7 81 "ColourEchoModel" "fogNow" "I") := F.at 4 rfl
  have f1 : ZW E (.fieldLink RX7 87 "ColourEchoModel" "snowNow" "I") := F.at 2 rfl
  have f2 : ZW E (.fieldLink RX7 93 "ColourEchoModel" "outNow" "I") := F.at 5 rfl
  have f3 : ZW E (.fieldLink RX7 99 "ColourEchoModel" "dayNow" "I") := F.at 6 rfl
  have f4 : ZW E (.fieldLink RX7 35 "ColourEchoModel" "shown" "[I") := F.at 3 rfl
  have f5 : ZW E (.fieldLink RX7 38 "ColourEchoModel" "then" "[I") := F.at 1 rfl
  have iX7 : ∀ x ∈ u_ws RX7 TX7 30, x ∈ wsX7_pass := fun _ h => List.mem_cons_of_mem _ (List.mem_append_right _ h)
  have t99 : ∀ (K22 : Mo → Int32 → Int32 → Int32 → Int32 → Prop) (ih22 : ∀ (vm : Mo) (x1 : Int32) (x2 : Int32) (x3 : Int32) (x4 : Int32), K22 vm x1 x2 x3 x4 → Z E 7 0 0 (w_Mo G a vm) [(0, .ref (a 0)), (1, .int x1), (2, .int x2), (3, .int x3), (4, .int x4)] 22 []) (vm : Mo) (x1 : Int32) (x2 : Int32) (x3 : Int32) (x4 : Int32) (s1 : Int32) (s2 : Int32), wpX7_pass_B99 Q K22 vm x1 x2 x3 x4 s1 s2 → Z E 7 0 0 (w_Mo G a vm) [(0, .ref (a 0)), (1, .int x1), (2, .int x2), (3, .int x3), (4, .int x4)] 99 [.int s2, .int s1, .ref (a 9)] := by
    intro K22 ih22 vm x1 x2 x3 x4 s1 s2 h
    unfold wpX7_pass_B99 at h
    have h9 := h.1
    have h := h.2
    refine z_iast (w_Mo G a (Mo_s_then vm (upd (Mo_then vm) (s1).toNatClampNeg s2))) F 9 rfl h9 rfl dX7_pass_99 ?_
    obtain ⟨x4_9, e9⟩ : ∃ z : Int32, z = x4 + (-1) := ⟨_, rfl⟩
    have h := h x4_9 e9
    refine z_iinc (v := x4_9) [(4, .int x4_9), (0, .ref (a 0)), (1, .int x1), (2, .int x2), (3, .int x3)] F dX7_pass_100 4 rfl (by rw [e9]; rfl) (by decide) rfl ?_
    refine z_goto 22 F dX7_pass_103 (by decide) ?_
    exact z_lv [1, 2, 3, 4, 0] rfl (ih22 (Mo_s_then vm (upd (Mo_then vm) (s1).toNatClampNeg s2)) x1 x2 x3 x4_9 h)
  have t60 : ∀ (K22 : Mo → Int32 → Int32 → Int32 → Int32 → Prop) (ih22 : ∀ (vm : Mo) (x1 : Int32) (x2 : Int32) (x3 : Int32) (x4 : Int32), K22 vm x1 x2 x3 x4 → Z E 7 0 0 (w_Mo G a vm) [(0, .ref (a 0)), (1, .int x1), (2, .int x2), (3, .int x3), (4, .int x4)] 22 []) (vm : Mo) (x1 : Int32) (x2 : Int32) (x3 : Int32) (x4 : Int32) (x5 : Int32) (s0 : Int32), wpX7_pass_B60 Q K22 vm x1 x2 x3 x4 x5 s0 → Z E 7 0 0 (w_Mo G a vm) [(0, .ref (a 0)), (1, .int x1), (2, .int x2), (3, .int x3), (4, .int x4), (5, .int x5)] 60 [.int s0] := by
    intro K22 ih22 vm x1 x2 x3 x4 x5 s0 h
    unfold wpX7_pass_B60 at h
    refine z_istore [(6, .int s0), (0, .ref (a 0)), (1, .int x1), (2, .int x2), (3, .int x3), (4, .int x4), (5, .int x5)] F dX7_pass_60 (by decide) rfl ?_
    refine z_aload_n F dX7_pass_62 rfl 1 rfl ?_
    refine z_get (ci := 7) F iX7 0 rfl rfl 15 (by decide) f5 rfl rfl dX7_pass_63 ?_
    refine z_iload F dX7_pass_66 5 rfl ?_
    refine z_iload F dX7_pass_68 6 rfl ?_
    refine z_if_ne 78 F dX7_pass_70 (by decide) (fun c9 => ?_) (fun c9 => ?_)
    · have h := h.1 c9
      refine z_aload_n F dX7_pass_78 rfl 1 rfl ?_
      refine z_get (ci := 7) F iX7 0 rfl rfl 18 (by decide) f1 rfl rfl dX7_pass_79 ?_
      refine z_iconst (v := 1) F dX7_pass_82 rfl ?_
      refine z_icmp_ne 90 F dX7_pass_83 (by decide) (fun c9 => ?_) (fun c9 => ?_)
      · have h := h.1 c9
        refine z_aload_n F dX7_pass_90 rfl 1 rfl ?_
        refine z_get (ci := 7) F iX7 0 rfl rfl 15 (by decide) f5 rfl rfl dX7_pass_91 ?_
        refine z_iload F dX7_pass_94 5 rfl ?_
        refine z_iconst (v := 1) F dX7_pass_96 rfl ?_
        refine z_isub F dX7_pass_97 ?_
        have h9 := h.1
        have h := h.2
        refine z_iald F 9 rfl h9 dX7_pass_98 ?_
        exact z_lv [1, 2, 3, 4, 5] rfl (t99 K22 ih22 vm x1 x2 x3 x4 x4 ((Mo_then vm) ((x4 - (1 : Int32))).toNatClampNeg) h)
      · have h := h.2 c9
        refine z_iconst (v := 0) F dX7_pass_86 rfl ?_
        refine z_goto 99 F dX7_pass_87 (by decide) ?_
        exact z_lv [1, 2, 3, 4, 5] rfl (t99 K22 ih22 vm x1 x2 x3 x4 x4 (0 : Int32) h)
    · have h := h.2 c9
      refine z_iload F dX7_pass_73 0 rfl ?_
      refine z_goto 99 F dX7_pass_75 (by decide) ?_
      exact z_lv [1, 2, 3, 4, 5] rfl (t99 K22 ih22 vm x1 x2 x3 x4 x4 s0 h)
  have t109 : ∀ (n : Nat) (vm : Mo) (x4 : Int32), wpX7_pass_L109 Q n vm x4 → Z E 7 0 0 (w_Mo G a vm) [(0, .ref (a 0)), (4, .int x4)] 109 [] := by
    intro n
    induction n with
    | zero => intro vm x4 h; exact h.elim
    | succ n ihQ =>
      have ih109 : ∀ (vm : Mo) (x4 : Int32), wpX7_pass_L109 Q n vm x4 → Z E 7 0 0 (w_Mo G a vm) [(0, .ref (a 0)), (4, .int x4)] 109 [] := ihQ
      intro vm x4 h
      have h : wpX7_pass_H109 Q (wpX7_pass_L109 Q n) vm x4 := h
      generalize wpX7_pass_L109 Q n = K109 at h ih109
      clear ihQ
      unfold wpX7_pass_H109 at h
      refine z_iload F dX7_pass_109 1 rfl ?_
      refine z_iconst (v := 3) F dX7_pass_111 rfl ?_
      refine z_icmp_ge 129 F dX7_pass_112 (by decide) (fun c9 => ?_) (fun c9 => ?_)
      · have h := h.1 c9
        refine z_aload_n F dX7_pass_129 rfl 0 rfl ?_
        refine z_iconst (v := 0) F dX7_pass_130 rfl ?_
        refine z_put (ci := 7) (ty := .int) (w_Mo G a (Mo_s_fogNow vm (0 : Int32))) F iX7 tyX7 tyX7_ok nmX7 0 rfl rfl 17 (by decide) f0 rfl rfl rfl rfl rfl (Nat.le_of_ble_eq_true rfl) rfl dX7_pass_131 ?_
        refine z_aload_n F dX7_pass_134 rfl 0 rfl ?_
        refine z_iconst (v := 0) F dX7_pass_135 rfl ?_
        refine z_put (ci := 7) (ty := .int) (w_Mo G a (Mo_s_snowNow (Mo_s_fogNow vm (0 : Int32)) (0 : Int32))) F iX7 tyX7 tyX7_ok nmX7 0 rfl rfl 18 (by decide) f1 rfl rfl rfl rfl rfl (Nat.le_of_ble_eq_true rfl) rfl dX7_pass_136 ?_
        refine z_aload_n F dX7_pass_139 rfl 0 rfl ?_
        refine z_iconst (v := 0) F dX7_pass_140 rfl ?_
        refine z_put (ci := 7) (ty := .int) (w_Mo G a (Mo_s_outNow (Mo_s_snowNow (Mo_s_fogNow vm (0 : Int32)) (0 : Int32)) (0 : Int32))) F iX7 tyX7 tyX7_ok nmX7 0 rfl rfl 19 (by decide) f2 rfl rfl rfl rfl rfl (Nat.le_of_ble_eq_true rfl) rfl dX7_pass_141 ?_
        refine z_aload_n F dX7_pass_144 rfl 0 rfl ?_
        refine z_dup F dX7_pass_145 rfl ?_
        refine z_get (ci := 7) (v := .int (Mo_dayNow vm)) F iX7 0 rfl rfl 20 (by decide) f3 rfl rfl dX7_pass_146 ?_
        refine z_iconst (v := 1) F dX7_pass_149 rfl ?_
        refine z_iadd F dX7_pass_150 ?_
        refine z_put (ci := 7) (ty := .int) (w_Mo G a (Mo_s_dayNow (Mo_s_outNow (Mo_s_snowNow (Mo_s_fogNow vm (0 : Int32)) (0 : Int32)) (0 : Int32)) ((Mo_dayNow vm) + (1 : Int32)))) F iX7 tyX7 tyX7_ok nmX7 0 rfl rfl 20 (by decide) f3 rfl rfl rfl rfl rfl (Nat.le_of_ble_eq_true rfl) rfl dX7_pass_151 ?_
        exact hret (Mo_s_dayNow (Mo_s_outNow (Mo_s_snowNow (Mo_s_fogNow vm (0 : Int32)) (0 : Int32)) (0 : Int32)) ((Mo_dayNow vm) + (1 : Int32))) _ _ h dX7_pass_154
      · have h := h.2 c9
        refine z_aload_n F dX7_pass_115 rfl 0 rfl ?_
        refine z_get (ci := 7) F iX7 0 rfl rfl 14 (by decide) f4 rfl rfl dX7_pass_116 ?_
        refine z_iload F dX7_pass_119 1 rfl ?_
        refine z_iconst (v := 0) F dX7_pass_121 rfl ?_
        have h9 := h.1
        have h := h.2
        refine z_iast (w_Mo G a (Mo_s_shown vm (upd (Mo_shown vm) (x4).toNatClampNeg (0 : Int32)))) F 8 rfl h9 rfl dX7_pass_122 ?_
        obtain ⟨x4_8, e9⟩ : ∃ z : Int32, z = x4 + 1 := ⟨_, rfl⟩
        have h := h x4_8 e9
        refine z_iinc (v := x4_8) [(4, .int x4_8), (0, .ref (a 0))] F dX7_pass_123 1 rfl (by rw [e9]; rfl) (by decide) rfl ?_
        refine z_goto 109 F dX7_pass_126 (by decide) ?_
        exact z_lv [1, 0] rfl (ih109 (Mo_s_shown vm (upd (Mo_shown vm) (x4).toNatClampNeg (0 : Int32))) x4_8 h)
  have t22 : ∀ (n : Nat) (vm : Mo) (x1 : Int32) (x2 : Int32) (x3 : Int32) (x4 : Int32), wpX7_pass_L22 Q n vm x1 x2 x3 x4 → Z E 7 0 0 (w_Mo G a vm) [(0, .ref (a 0)), (1, .int x1), (2, .int x2), (3, .int x3), (4, .int x4)] 22 [] := by
    intro n
    induction n with
    | zero => intro vm x1 x2 x3 x4 h; exact h.elim
    | succ n ihQ =>
      have ih22 : ∀ (vm : Mo) (x1 : Int32) (x2 : Int32) (x3 : Int32) (x4 : Int32), wpX7_pass_L22 Q n vm x1 x2 x3 x4 → Z E 7 0 0 (w_Mo G a vm) [(0, .ref (a 0)), (1, .int x1), (2, .int x2), (3, .int x3), (4, .int x4)] 22 [] := ihQ
      intro vm x1 x2 x3 x4 h
      have h : wpX7_pass_H22 Q (wpX7_pass_L22 Q n) vm x1 x2 x3 x4 := h
      generalize wpX7_pass_L22 Q n = K22 at h ih22
      clear ihQ
      unfold wpX7_pass_H22 at h
      refine z_iload F dX7_pass_22 4 rfl ?_
      refine z_if_lt 106 F dX7_pass_24 (by decide) (fun c9 => ?_) (fun c9 => ?_)
      · have h := h.1 c9
        refine z_iconst (v := 0) F dX7_pass_106 rfl ?_
        refine z_istore [(4, .int (0 : Int32)), (0, .ref (a 0)), (1, .int x1), (2, .int x2), (3, .int x3)] F dX7_pass_107 (by decide) rfl ?_
        obtain ⟨n9, h⟩ := h
        exact z_lv [1, 0] rfl (t109 n9 vm (0 : Int32) h)
      · have h := h.2 c9
        refine z_iload F dX7_pass_27 4 rfl ?_
        refine z_bipush (v := 9) F dX7_pass_29 rfl ?_
        refine z_irem F dX7_pass_31 (by decide) ?_
        refine z_topi (fun x5_7 e9 => ?_)
        have h := h x5_7 e9
        refine z_istore [(5, .int x5_7), (0, .ref (a 0)), (1, .int x1), (2, .int x2), (3, .int x3), (4, .int x4)] F dX7_pass_32 (by decide) rfl ?_
        refine z_iload F dX7_pass_34 5 rfl ?_
        refine z_bipush (v := 9) F dX7_pass_36 rfl ?_
        refine z_idiv F dX7_pass_38 (by decide) ?_
        refine z_if_ne 46 F dX7_pass_39 (by decide) (fun c9 => ?_) (fun c9 => ?_)
        · have h := h.1 c9
          refine z_iload F dX7_pass_46 5 rfl ?_
          refine z_bipush (v := 9) F dX7_pass_48 rfl ?_
          refine z_idiv F dX7_pass_50 (by decide) ?_
          refine z_iconst (v := 1) F dX7_pass_51 rfl ?_
          refine z_icmp_ne 59 F dX7_pass_52 (by decide) (fun c9 => ?_) (fun c9 => ?_)
          · have h := h.1 c9
            refine z_iload_n F dX7_pass_59 rfl 4 rfl ?_
            exact z_lv [1, 2, 3, 4, 5, 0] rfl (t60 K22 ih22 vm x1 x2 x3 x4 x5_7 x3 h)
          · have h := h.2 c9
            refine z_iload_n F dX7_pass_55 rfl 3 rfl ?_
            refine z_goto 60 F dX7_pass_56 (by decide) ?_
            exact z_lv [1, 2, 3, 4, 5, 0] rfl (t60 K22 ih22 vm x1 x2 x3 x4 x5_7 x2 h)
        · have h := h.2 c9
          refine z_iload_n F dX7_pass_42 rfl 2 rfl ?_
          refine z_goto 60 F dX7_pass_43 (by decide) ?_
          exact z_lv [1, 2, 3, 4, 5, 0] rfl (t60 K22 ih22 vm x1 x2 x3 x4 x5_7 x1 h)
  unfold wpX7_pass at h
  refine z_aload_n F dX7_pass_0 rfl 0 rfl ?_
  refine z_iconst (v := 0) F dX7_pass_1 rfl ?_
  refine z_callVi (fun u9 => w_Mo G a u9) F (mX7_see G a vm (0 : Int32) _ h) gX7_pass_X7_see rfl hdX7_see ⟨rfl, rfl, Nat.le_of_ble_eq_true rfl, Nat.le_of_ble_eq_true rfl, Nat.le_of_ble_eq_true rfl, Nat.le_of_ble_eq_true rfl⟩ 0 rfl rfl [0, 1, 2, 3, 4, 5, 6, 7, 8, 9, 10, 11, 12, 13, 14, 15, 16] [] [0, 1, 2, 3, 4, 5, 6, 7, 8, 9, 10, 11, 12, 13, 14, 15, 16] rfl rfl (by decide) (fun _ => rfl) rfl (Nat.le_of_ble_eq_true rfl) dX7_pass_2 (fun r_1 vm_2 h => ?_)
  refine z_istore_n [(1, .int r_1), (0, .ref (a 0))] F dX7_pass_5 rfl (by decide) rfl ?_
  refine z_aload_n F dX7_pass_6 rfl 1 rfl ?_
  refine z_iconst (v := 1) F dX7_pass_7 rfl ?_
  refine z_callVi (fun u9 => w_Mo G a u9) F (mX7_see G a vm_2 (1 : Int32) _ h) gX7_pass_X7_see rfl hdX7_see ⟨rfl, rfl, Nat.le_of_ble_eq_true rfl, Nat.le_of_ble_eq_true rfl, Nat.le_of_ble_eq_true rfl, Nat.le_of_ble_eq_true rfl⟩ 0 rfl rfl [0, 1, 2, 3, 4, 5, 6, 7, 8, 9, 10, 11, 12, 13, 14, 15, 16] [] [0, 1, 2, 3, 4, 5, 6, 7, 8, 9, 10, 11, 12, 13, 14, 15, 16] rfl rfl (by decide) (fun _ => rfl) rfl (Nat.le_of_ble_eq_true rfl) dX7_pass_8 (fun r_3 vm_4 h => ?_)
  refine z_istore_n [(2, .int r_3), (1, .int r_1), (0, .ref (a 0))] F dX7_pass_11 rfl (by decide) rfl ?_
  refine z_aload_n F dX7_pass_12 rfl 2 rfl ?_
  refine z_iconst (v := 2) F dX7_pass_13 rfl ?_
  refine z_callVi (fun u9 => w_Mo G a u9) F (mX7_see G a vm_4 (2 : Int32) _ h) gX7_pass_X7_see rfl hdX7_see ⟨rfl, rfl, Nat.le_of_ble_eq_true rfl, Nat.le_of_ble_eq_true rfl, Nat.le_of_ble_eq_true rfl, Nat.le_of_ble_eq_true rfl⟩ 0 rfl rfl [0, 1, 2, 3, 4, 5, 6, 7, 8, 9, 10, 11, 12, 13, 14, 15, 16] [] [0, 1, 2, 3, 4, 5, 6, 7, 8, 9, 10, 11, 12, 13, 14, 15, 16] rfl rfl (by decide) (fun _ => rfl) rfl (Nat.le_of_ble_eq_true rfl) dX7_pass_14 (fun r_5 vm_6 h => ?_)
  refine z_istore_n [(3, .int r_5), (2, .int r_3), (1, .int r_1), (0, .ref (a 0))] F dX7_pass_17 rfl (by decide) rfl ?_
  refine z_bipush (v := 26) F dX7_pass_18 rfl ?_
  refine z_istore [(4, .int (26 : Int32)), (3, .int r_5), (2, .int r_3), (1, .int r_1), (0, .ref (a 0))] F dX7_pass_20 (by decide) rfl ?_
  obtain ⟨n9, h⟩ := h
  exact z_lv [4, 3, 2, 1, 0] rfl (t22 n9 vm_6 r_1 r_3 r_5 (26 : Int32) h)
abbrev rmX7_waits : Room := { frames := 2, cells := 0, slots := 0, locals := 49 }
set_option maxRecDepth 100000 in
set_option maxHeartbeats 4000000 in
theorem mX7_waits (G : ZG) (a : Nat → Nat) (vm : Mo) (p1 : Int32) (Q : Mo → Prop) (h : wpX7_waits vm p1 Q) : ZMv G yX7_waits wsX7_waits rmX7_waits [.ref (a 0), .int p1] (w_Mo G a vm) (fun vm : Mo => w_Mo G a vm) (Q) := by
  refine z_ofv (cc := cX7_waits) (N := 3) (lv := [(0, .ref (a 0)), (1, .int p1)]) (by decide) rfl (Nat.le_of_ble_eq_true rfl) rfl (fun E F hret => ?_)
  have F : ZF E 3 cX7_waits RX7 wsX7_waits rmX7_waits G := F
  have t2 : ∀ (n : Nat) (vm : Mo) (x1 : Int32) (x2 : Int32), wpX7_waits_L2 Q n vm x1 x2 → Z E 3 0 0 (w_Mo G a vm) [(0, .ref (a 0)), (1, .int x1), (2, .int x2)] 2 [] := by
    intro n
    induction n with
    | zero => intro vm x1 x2 h; exact h.elim
    | succ n ihQ =>
      have ih2 : ∀ (vm : Mo) (x1 : Int32) (x2 : Int32), wpX7_waits_L2 Q n vm x1 x2 → Z E 3 0 0 (w_Mo G a vm) [(0, .ref (a 0)), (1, .int x1), (2, .int x2)] 2 [] := ihQ
      intro vm x1 x2 h
      have h : wpX7_waits_H2 Q (wpX7_waits_L2 Q n) vm x1 x2 := h
      generalize wpX7_waits_L2 Q n = K2 at h ih2
      clear ihQ
      unfold wpX7_waits_H2 at h
      refine z_iload_n F dX7_waits_2 rfl 2 rfl ?_
      refine z_iload_n F dX7_waits_3 rfl 1 rfl ?_
      refine z_icmp_ge 17 F dX7_waits_4 (by decide) (fun c9 => ?_) (fun c9 => ?_)
      · have h := h.1 c9
        exact hret vm _ _ h dX7_waits_17
      · have h := h.2 c9
        refine z_aload_n F dX7_waits_7 rfl 0 rfl ?_
        refine z_callVv (fun u9 => w_Mo G a u9) F (mX7_pass G a vm _ h) gX7_waits_X7_pass rfl hdX7_pass ⟨rfl, rfl, Nat.le_of_ble_eq_true rfl, Nat.le_of_ble_eq_true rfl, Nat.le_of_ble_eq_true rfl, Nat.le_of_ble_eq_true rfl⟩ 0 rfl rfl [0, 1, 2, 3, 4, 5, 6, 7, 8, 9, 10, 11, 12, 13, 14, 15, 16] [] [0, 1, 2, 3, 4, 5, 6, 7, 8, 9, 10, 11, 12, 13, 14, 15, 16] rfl rfl (by decide) (fun _ => rfl) rfl (Nat.le_of_ble_eq_true rfl) dX7_waits_8 (fun vm_1 h => ?_)
        obtain ⟨x2_2, e9⟩ : ∃ z : Int32, z = x2 + 1 := ⟨_, rfl⟩
        have h := h x2_2 e9
        refine z_iinc (v := x2_2) [(2, .int x2_2), (0, .ref (a 0)), (1, .int x1)] F dX7_waits_11 2 rfl (by rw [e9]; rfl) (by decide) rfl ?_
        refine z_goto 2 F dX7_waits_14 (by decide) ?_
        exact z_lv [1, 2, 0] rfl (ih2 vm_1 x1 x2_2 h)
  unfold wpX7_waits at h
  refine z_iconst (v := 0) F dX7_waits_0 rfl ?_
  refine z_istore_n [(2, .int (0 : Int32)), (0, .ref (a 0)), (1, .int p1)] F dX7_waits_1 rfl (by decide) rfl ?_
  obtain ⟨n9, h⟩ := h
  exact z_lv [1, 2, 0] rfl (t2 n9 vm p1 (0 : Int32) h)
abbrev rmX7_wear : Room := { frames := 0, cells := 0, slots := 0, locals := 0 }
set_option maxRecDepth 100000 in
set_option maxHeartbeats 4000000 in
theorem mX7_wear (G : ZG) (a : Nat → Nat) (vm : Mo) (p1 : Int32) (Q : Mo → Prop) (h : wpX7_wear vm p1 Q) : ZMv G yX7_wear wsX7_wear rmX7_wear [.ref (a 0), .int p1] (w_Mo G a vm) (fun vm : Mo => w_Mo G a vm) (Q) := by
  refine z_ofv (cc := cX7_wear) (N := 3) (lv := [(0, .ref (a 0)), (1, .int p1)]) (by decide) rfl (Nat.le_of_ble_eq_true rfl) rfl (fun E F hret => ?_)
  have F : ZF E 3 cX7_wear RX7 wsX7_wear rmX7_wear G := F
  have f0 : ZW E (.fieldLink RX7 35 "ColourEchoModel" "shown" "[I") := F.at 1 rfl
  have f1 : ZW E (.fieldLink RX7 16 "ColourEchoModel" "dress" "[I") := F.at 2 rfl
  have iX7 : ∀ x ∈ u_ws RX7 TX7 30, x ∈ wsX7_wear := fun _ h => List.mem_cons_of_mem _ (List.mem_append_right _ h)
  have t2 : ∀ (n : Nat) (vm : Mo) (x1 : Int32) (x2 : Int32), wpX7_wear_L2 Q n vm x1 x2 → Z E 3 0 0 (w_Mo G a vm) [(0, .ref (a 0)), (1, .int x1), (2, .int x2)] 2 [] := by
    intro n
    induction n with
    | zero => intro vm x1 x2 h; exact h.elim
    | succ n ihQ =>
      have ih2 : ∀ (vm : Mo) (x1 : Int32) (x2 : Int32), wpX7_wear_L2 Q n vm x1 x2 → Z E 3 0 0 (w_Mo G a vm) [(0, .ref (a 0)), (1, .int x1), (2, .int x2)] 2 [] := ihQ
      intro vm x1 x2 h
      have h : wpX7_wear_H2 Q (wpX7_wear_L2 Q n) vm x1 x2 := h
      generalize wpX7_wear_L2 Q n = K2 at h ih2
      clear ihQ
      unfold wpX7_wear_H2 at h
      refine z_iload_n F dX7_wear_2 rfl 2 rfl ?_
      refine z_iconst (v := 3) F dX7_wear_3 rfl ?_
      refine z_icmp_ge 32 F dX7_wear_4 (by decide) (fun c9 => ?_) (fun c9 => ?_)
      · have h := h.1 c9
        exact hret vm _ _ h dX7_wear_32
      · have h := h.2 c9
        refine z_aload_n F dX7_wear_7 rfl 0 rfl ?_
        refine z_get (ci := 7) F iX7 0 rfl rfl 14 (by decide) f0 rfl rfl dX7_wear_8 ?_
        refine z_iload_n F dX7_wear_11 rfl 2 rfl ?_
        refine z_dup2 F dX7_wear_12 rfl rfl ?_
        have h9 := h.1
        have h := h.2
        refine z_iald F 8 rfl h9 dX7_wear_13 ?_
        refine z_aload_n F dX7_wear_14 rfl 0 rfl ?_
        refine z_get (ci := 7) F iX7 0 rfl rfl 2 (by decide) f1 rfl rfl dX7_wear_15 ?_
        refine z_iconst (v := 3) F dX7_wear_18 rfl ?_
        refine z_iload_n F dX7_wear_19 rfl 1 rfl ?_
        refine z_imul F dX7_wear_20 ?_
        refine z_iload_n F dX7_wear_21 rfl 2 rfl ?_
        refine z_iadd F dX7_wear_22 ?_
        have h9 := h.1
        have h := h.2
        refine z_iald F 3 rfl h9 dX7_wear_23 ?_
        refine z_iadd F dX7_wear_24 ?_
        have h9 := h.1
        have h := h.2
        refine z_iast (w_Mo G a (Mo_s_shown vm (upd (Mo_shown vm) (x2).toNatClampNeg (((Mo_shown vm) (x2).toNatClampNeg) + ((Mo_dress vm) ((((3 : Int32) * x1) + x2)).toNatClampNeg))))) F 8 rfl h9 rfl dX7_wear_25 ?_
        obtain ⟨x2_1, e9⟩ : ∃ z : Int32, z = x2 + 1 := ⟨_, rfl⟩
        have h := h x2_1 e9
        refine z_iinc (v := x2_1) [(2, .int x2_1), (0, .ref (a 0)), (1, .int x1)] F dX7_wear_26 2 rfl (by rw [e9]; rfl) (by decide) rfl ?_
        refine z_goto 2 F dX7_wear_29 (by decide) ?_
        exact z_lv [1, 2, 0] rfl (ih2 (Mo_s_shown vm (upd (Mo_shown vm) (x2).toNatClampNeg (((Mo_shown vm) (x2).toNatClampNeg) + ((Mo_dress vm) ((((3 : Int32) * x1) + x2)).toNatClampNeg)))) x1 x2_1 h)
  unfold wpX7_wear at h
  refine z_iconst (v := 0) F dX7_wear_0 rfl ?_
  refine z_istore_n [(2, .int (0 : Int32)), (0, .ref (a 0)), (1, .int p1)] F dX7_wear_1 rfl (by decide) rfl ?_
  obtain ⟨n9, h⟩ := h
  exact z_lv [1, 2, 0] rfl (t2 n9 vm p1 (0 : Int32) h)
abbrev rmX7_whyNotWear : Room := { frames := 1, cells := 0, slots := 0, locals := 21 }
set_option maxRecDepth 100000 in
set_option maxHeartbeats 4000000 in
theorem mX7_whyNotWear (G : ZG) (a : Nat → Nat) (vm : Mo) (p1 : Int32) (Q : Int32 → Mo → Prop) (h : wpX7_whyNotWear vm p1 Q) : ZMi G yX7_whyNotWear wsX7_whyNotWear rmX7_whyNotWear [.ref (a 0), .int p1] (w_Mo G a vm) (fun vm : Mo => w_Mo G a vm) (Q) := by
  refine z_ofi (cc := cX7_whyNotWear) (N := 4) (lv := [(0, .ref (a 0)), (1, .int p1)]) (by decide) rfl (Nat.le_of_ble_eq_true rfl) rfl (fun E F hret => ?_)
  have F : ZF E 4 cX7_whyNotWear RX7 wsX7_whyNotWear rmX7_whyNotWear G := F
  have f0 : ZW E (.fieldLink RX7 93 "ColourEchoModel" "outNow" "I") := F.at 3 rfl
  have f1 : ZW E (.fieldLink RX7 35 "ColourEchoModel" "shown" "[I") := F.at 1 rfl
  have f2 : ZW E (.fieldLink RX7 16 "ColourEchoModel" "dress" "[I") := F.at 2 rfl
  have iX7 : ∀ x ∈ u_ws RX7 TX7 30, x ∈ wsX7_whyNotWear := fun _ h => List.mem_cons_of_mem _ (List.mem_append_right _ h)
  have t41 : ∀ (K4 : Mo → Int32 → Int32 → Int32 → Prop) (ih4 : ∀ (vm : Mo) (x1 : Int32) (x2 : Int32) (x3 : Int32), K4 vm x1 x2 x3 → Z E 4 0 0 (w_Mo G a vm) [(0, .ref (a 0)), (1, .int x1), (2, .int x2), (3, .int x3)] 4 []) (vm : Mo) (x1 : Int32) (x3 : Int32) (s0 : Int32), wpX7_whyNotWear_B41 Q K4 vm x1 x3 s0 → Z E 4 0 0 (w_Mo G a vm) [(0, .ref (a 0)), (1, .int x1), (3, .int x3)] 41 [.int s0] := by
    intro K4 ih4 vm x1 x3 s0 h
    unfold wpX7_whyNotWear_B41 at h
    refine z_istore_n [(2, .int s0), (0, .ref (a 0)), (1, .int x1), (3, .int x3)] F dX7_whyNotWear_41 rfl (by decide) rfl ?_
    obtain ⟨x3_2, e9⟩ : ∃ z : Int32, z = x3 + 1 := ⟨_, rfl⟩
    have h := h x3_2 e9
    refine z_iinc (v := x3_2) [(3, .int x3_2), (2, .int s0), (0, .ref (a 0)), (1, .int x1)] F dX7_whyNotWear_42 3 rfl (by rw [e9]; rfl) (by decide) rfl ?_
    refine z_goto 4 F dX7_whyNotWear_45 (by decide) ?_
    exact z_lv [2, 3, 1, 0] rfl (ih4 vm x1 s0 x3_2 h)
  have t36 : ∀ (K4 : Mo → Int32 → Int32 → Int32 → Prop) (ih4 : ∀ (vm : Mo) (x1 : Int32) (x2 : Int32) (x3 : Int32), K4 vm x1 x2 x3 → Z E 4 0 0 (w_Mo G a vm) [(0, .ref (a 0)), (1, .int x1), (2, .int x2), (3, .int x3)] 4 []) (vm : Mo) (x1 : Int32) (x3 : Int32), wpX7_whyNotWear_B36 Q K4 vm x1 x3 → Z E 4 0 0 (w_Mo G a vm) [(0, .ref (a 0)), (1, .int x1), (3, .int x3)] 36 [] := by
    intro K4 ih4 vm x1 x3 h
    unfold wpX7_whyNotWear_B36 at h
    refine z_iconst (v := 1) F dX7_whyNotWear_36 rfl ?_
    refine z_goto 41 F dX7_whyNotWear_37 (by decide) ?_
    exact z_lv [0, 1, 2] rfl (t41 K4 ih4 vm x1 x3 (1 : Int32) h)
  have t4 : ∀ (n : Nat) (vm : Mo) (x1 : Int32) (x2 : Int32) (x3 : Int32), wpX7_whyNotWear_L4 Q n vm x1 x2 x3 → Z E 4 0 0 (w_Mo G a vm) [(0, .ref (a 0)), (1, .int x1), (2, .int x2), (3, .int x3)] 4 [] := by
    intro n
    induction n with
    | zero => intro vm x1 x2 x3 h; exact h.elim
    | succ n ihQ =>
      have ih4 : ∀ (vm : Mo) (x1 : Int32) (x2 : Int32) (x3 : Int32), wpX7_whyNotWear_L4 Q n vm x1 x2 x3 → Z E 4 0 0 (w_Mo G a vm) [(0, .ref (a 0)), (1, .int x1), (2, .int x2), (3, .int x3)] 4 [] := ihQ
      intro vm x1 x2 x3 h
      have h : wpX7_whyNotWear_H4 Q (wpX7_whyNotWear_L4 Q n) vm x1 x2 x3 := h
      generalize wpX7_whyNotWear_L4 Q n = K4 at h ih4
      clear ihQ
      unfold wpX7_whyNotWear_H4 at h
      refine z_iload_n F dX7_whyNotWear_4 rfl 3 rfl ?_
      refine z_iconst (v := 3) F dX7_whyNotWear_5 rfl ?_
      refine z_icmp_ge 48 F dX7_whyNotWear_6 (by decide) (fun c9 => ?_) (fun c9 => ?_)
      · have h := h.1 c9
        refine z_iload_n F dX7_whyNotWear_48 rfl 2 rfl ?_
        refine z_if_eq 56 F dX7_whyNotWear_49 (by decide) (fun c9 => ?_) (fun c9 => ?_)
        · have h := h.1 c9
          refine z_aload_n F dX7_whyNotWear_56 rfl 0 rfl ?_
          refine z_get (ci := 7) F iX7 0 rfl rfl 19 (by decide) f0 rfl rfl dX7_whyNotWear_57 ?_
          refine z_iload_n F dX7_whyNotWear_60 rfl 1 rfl ?_
          refine z_callSi (fun _ => w_Mo G a vm) F (mX7_has G (Mo_outNow vm) x1 _ h) gX7_whyNotWear_X7_has rfl hdX7_has ⟨rfl, rfl, Nat.le_of_ble_eq_true rfl, Nat.le_of_ble_eq_true rfl, Nat.le_of_ble_eq_true rfl, Nat.le_of_ble_eq_true rfl⟩ [] [0, 1, 2, 3, 4, 5, 6, 7, 8, 9, 10, 11, 12, 13, 14, 15, 16] [0, 1, 2, 3, 4, 5, 6, 7, 8, 9, 10, 11, 12, 13, 14, 15, 16] rfl rfl (by decide) (fun _ => rfl) rfl (Nat.le_of_ble_eq_true rfl) dX7_whyNotWear_61 (fun r_1 u9 h => ?_)
          refine z_if_eq 71 F dX7_whyNotWear_64 (by decide) (fun c9 => ?_) (fun c9 => ?_)
          · have h := h.1 c9
            refine z_iconst (v := 0) F dX7_whyNotWear_71 rfl ?_
            exact hret (0 : Int32) vm _ _ h dX7_whyNotWear_72
          · have h := h.2 c9
            refine z_iconst (v := 2) F dX7_whyNotWear_67 rfl ?_
            refine z_goto 72 F dX7_whyNotWear_68 (by decide) ?_
            exact hret (2 : Int32) vm _ _ h dX7_whyNotWear_72
        · have h := h.2 c9
          refine z_iconst (v := 1) F dX7_whyNotWear_52 rfl ?_
          refine z_goto 72 F dX7_whyNotWear_53 (by decide) ?_
          exact hret (1 : Int32) vm _ _ h dX7_whyNotWear_72
      · have h := h.2 c9
        refine z_iload_n F dX7_whyNotWear_9 rfl 2 rfl ?_
        refine z_if_ne 36 F dX7_whyNotWear_10 (by decide) (fun c9 => ?_) (fun c9 => ?_)
        · have h := h.1 c9
          exact z_lv [0, 1, 3] rfl (t36 K4 ih4 vm x1 x3 h)
        · have h := h.2 c9
          refine z_aload_n F dX7_whyNotWear_13 rfl 0 rfl ?_
          refine z_get (ci := 7) F iX7 0 rfl rfl 14 (by decide) f1 rfl rfl dX7_whyNotWear_14 ?_
          refine z_iload_n F dX7_whyNotWear_17 rfl 3 rfl ?_
          have h9 := h.1
          have h := h.2
          refine z_iald F 8 rfl h9 dX7_whyNotWear_18 ?_
          refine z_aload_n F dX7_whyNotWear_19 rfl 0 rfl ?_
          refine z_get (ci := 7) F iX7 0 rfl rfl 2 (by decide) f2 rfl rfl dX7_whyNotWear_20 ?_
          refine z_iconst (v := 3) F dX7_whyNotWear_23 rfl ?_
          refine z_iload_n F dX7_whyNotWear_24 rfl 1 rfl ?_
          refine z_imul F dX7_whyNotWear_25 ?_
          refine z_iload_n F dX7_whyNotWear_26 rfl 3 rfl ?_
          refine z_iadd F dX7_whyNotWear_27 ?_
          have h9 := h.1
          have h := h.2
          refine z_iald F 3 rfl h9 dX7_whyNotWear_28 ?_
          refine z_iadd F dX7_whyNotWear_29 ?_
          refine z_sipush (v := 999) F dX7_whyNotWear_30 rfl ?_
          refine z_icmp_le 40 F dX7_whyNotWear_33 (by decide) (fun c9 => ?_) (fun c9 => ?_)
          · have h := h.1 c9
            refine z_iconst (v := 0) F dX7_whyNotWear_40 rfl ?_
            exact z_lv [0, 1, 3] rfl (t41 K4 ih4 vm x1 x3 (0 : Int32) h)
          · have h := h.2 c9
            exact z_lv [0, 1, 3] rfl (t36 K4 ih4 vm x1 x3 h)
  unfold wpX7_whyNotWear at h
  refine z_iconst (v := 0) F dX7_whyNotWear_0 rfl ?_
  refine z_istore_n [(2, .int (0 : Int32)), (0, .ref (a 0)), (1, .int p1)] F dX7_whyNotWear_1 rfl (by decide) rfl ?_
  refine z_iconst (v := 0) F dX7_whyNotWear_2 rfl ?_
  refine z_istore_n [(3, .int (0 : Int32)), (2, .int (0 : Int32)), (0, .ref (a 0)), (1, .int p1)] F dX7_whyNotWear_3 rfl (by decide) rfl ?_
  obtain ⟨n9, h⟩ := h
  exact z_lv [2, 3, 1, 0] rfl (t4 n9 vm p1 (0 : Int32) (0 : Int32) h)
abbrev rmX7_note : Room := { frames := 2, cells := 0, slots := 0, locals := 43 }
set_option maxRecDepth 100000 in
set_option maxHeartbeats 4000000 in
theorem mX7_note (G : ZG) (a : Nat → Nat) (vm : Mo) (Q : Mo → Prop) (h : wpX7_note vm Q) : ZMv G yX7_note wsX7_note rmX7_note [.ref (a 0)] (w_Mo G a vm) (fun vm : Mo => w_Mo G a vm) (Q) := by
  refine z_ofv (cc := cX7_note) (N := 1) (lv := [(0, .ref (a 0))]) (by decide) rfl (Nat.le_of_ble_eq_true rfl) rfl (fun E F hret => ?_)
  have F : ZF E 1 cX7_note RX7 wsX7_note rmX7_note G := F
  have f0 : ZW E (.fieldLink RX7 115 "ColourEchoModel" "brokenAt" "I") := F.at 1 rfl
  have f1 : ZW E (.fieldLink RX7 99 "ColourEchoModel" "dayNow" "I") := F.at 2 rfl
  have f2 : ZW E (.fieldLink RX7 96 "ColourEchoModel" "day" "I") := F.at 3 rfl
  have iX7 : ∀ x ∈ u_ws RX7 TX7 30, x ∈ wsX7_note := fun _ h => List.mem_cons_of_mem _ (List.mem_append_right _ h)
  unfold wpX7_note at h
  refine z_aload_n F dX7_note_0 rfl 0 rfl ?_
  refine z_aload_n F dX7_note_1 rfl 0 rfl ?_
  refine z_get (ci := 7) F iX7 0 rfl rfl 23 (by decide) f0 rfl rfl dX7_note_2 ?_
  refine z_if_ge 27 F dX7_note_5 (by decide) (fun c9 => ?_) (fun c9 => ?_)
  · have h := h.1 c9
    refine z_aload_n F dX7_note_27 rfl 0 rfl ?_
    refine z_get (ci := 7) F iX7 0 rfl rfl 23 (by decide) f0 rfl rfl dX7_note_28 ?_
    refine z_put (ci := 7) (ty := .int) (w_Mo G a (Mo_s_brokenAt vm (Mo_brokenAt vm))) F iX7 tyX7 tyX7_ok nmX7 0 rfl rfl 23 (by decide) f0 rfl rfl rfl rfl rfl (Nat.le_of_ble_eq_true rfl) rfl dX7_note_31 ?_
    exact hret (Mo_s_brokenAt vm (Mo_brokenAt vm)) _ _ h dX7_note_34
  · have h := h.2 c9
    refine z_aload_n F dX7_note_8 rfl 0 rfl ?_
    refine z_callVi (fun u9 => w_Mo G a u9) F (mX7_isOver G a vm _ h) gX7_note_X7_isOver rfl hdX7_isOver ⟨rfl, rfl, Nat.le_of_ble_eq_true rfl, Nat.le_of_ble_eq_true rfl, Nat.le_of_ble_eq_true rfl, Nat.le_of_ble_eq_true rfl⟩ 0 rfl rfl [0, 1, 2, 3, 4, 5, 6, 7, 8, 9, 10, 11, 12, 13, 14, 15, 16] [] [0, 1, 2, 3, 4, 5, 6, 7, 8, 9, 10, 11, 12, 13, 14, 15, 16] rfl rfl (by decide) (fun _ => rfl) rfl (Nat.le_of_ble_eq_true rfl) dX7_note_9 (fun r_1 vm_2 h => ?_)
    refine z_if_eq 27 F dX7_note_12 (by decide) (fun c9 => ?_) (fun c9 => ?_)
    · have h := h.1 c9
      refine z_aload_n F dX7_note_27 rfl 0 rfl ?_
      refine z_get (ci := 7) F iX7 0 rfl rfl 23 (by decide) f0 rfl rfl dX7_note_28 ?_
      refine z_put (ci := 7) (ty := .int) (w_Mo G a (Mo_s_brokenAt vm_2 (Mo_brokenAt vm_2))) F iX7 tyX7 tyX7_ok nmX7 0 rfl rfl 23 (by decide) f0 rfl rfl rfl rfl rfl (Nat.le_of_ble_eq_true rfl) rfl dX7_note_31 ?_
      exact hret (Mo_s_brokenAt vm_2 (Mo_brokenAt vm_2)) _ _ h dX7_note_34
    · have h := h.2 c9
      refine z_aload_n F dX7_note_15 rfl 0 rfl ?_
      refine z_get (ci := 7) F iX7 0 rfl rfl 20 (by decide) f1 rfl rfl dX7_note_16 ?_
      refine z_aload_n F dX7_note_19 rfl 0 rfl ?_
      refine z_get (ci := 7) F iX7 0 rfl rfl 4 (by decide) f2 rfl rfl dX7_note_20 ?_
      refine z_isub F dX7_note_23 ?_
      refine z_goto 31 F dX7_note_24 (by decide) ?_
      refine z_put (ci := 7) (ty := .int) (w_Mo G a (Mo_s_brokenAt vm_2 ((Mo_dayNow vm_2) - (Mo_day vm_2)))) F iX7 tyX7 tyX7_ok nmX7 0 rfl rfl 23 (by decide) f0 rfl rfl rfl rfl rfl (Nat.le_of_ble_eq_true rfl) rfl dX7_note_31 ?_
      exact hret (Mo_s_brokenAt vm_2 ((Mo_dayNow vm_2) - (Mo_day vm_2))) _ _ h dX7_note_34
abbrev rmX7_goDays : Room := { frames := 3, cells := 0, slots := 0, locals := 63 }
set_option maxRecDepth 100000 in
set_option maxHeartbeats 4000000 in
theorem mX7_goDays (G : ZG) (a : Nat → Nat) (vm : Mo) (Q : Int32 → Mo → Prop) (h : wpX7_goDays vm Q) : ZMi G yX7_goDays wsX7_goDays rmX7_goDays [.ref (a 0)] (w_Mo G a vm) (fun vm : Mo => w_Mo G a vm) (Q) := by
  refine z_ofi (cc := cX7_goDays) (N := 5) (lv := [(0, .ref (a 0))]) (by decide) rfl (Nat.le_of_ble_eq_true rfl) rfl (fun E F hret => ?_)
  have F : ZF E 5 cX7_goDays RX7 wsX7_goDays rmX7_goDays G := F
  have f0 : ZW E (.fieldLink RX7 122 "ColourEchoModel" "acts" "I") := F.at 1 rfl
  have f1 : ZW E (.fieldLink RX7 115 "ColourEchoModel" "brokenAt" "I") := F.at 2 rfl
  have f2 : ZW E (.fieldLink RX7 67 "ColourEchoModel" "signs" "I") := F.at 3 rfl
  have f3 : ZW E (.fieldLink RX7 32 "ColourEchoModel" "pad" "[I") := F.at 4 rfl
  have f4 : ZW E (.fieldLink RX7 125 "ColourEchoModel" "reason" "I") := F.at 5 rfl
  have f5 : ZW E (.fieldLink RX7 93 "ColourEchoModel" "outNow" "I") := F.at 11 rfl
  have f6 : ZW E (.fieldLink RX7 99 "ColourEchoModel" "dayNow" "I") := F.at 10 rfl
  have f7 : ZW E (.fieldLink RX7 87 "ColourEchoModel" "snowNow" "I") := F.at 9 rfl
  have f8 : ZW E (.fieldLink RX7 81 "ColourEchoModel" "fogNow" "I") := F.at 8 rfl
  have f9 : ZW E (.fieldLink RX7 41 "ColourEchoModel" "keep" "[I") := F.at 7 rfl
  have f10 : ZW E (.fieldLink RX7 35 "ColourEchoModel" "shown" "[I") := F.at 6 rfl
  have iX7 : ∀ x ∈ u_ws RX7 TX7 30, x ∈ wsX7_goDays := fun _ h => List.mem_cons_of_mem _ (List.mem_append_right _ h)
  have t287 : ∀ (K17 : Mo → Int32 → Prop) (ih17 : ∀ (vm : Mo) (x1 : Int32), K17 vm x1 → Z E 5 0 0 (w_Mo G a vm) [(0, .ref (a 0)), (1, .int x1)] 17 []) (vm : Mo) (x1 : Int32), wpX7_goDays_B287 Q K17 vm x1 → Z E 5 0 0 (w_Mo G a vm) [(0, .ref (a 0)), (1, .int x1)] 287 [] := by
    intro K17 ih17 vm x1 h
    unfold wpX7_goDays_B287 at h
    refine z_aload_n F dX7_goDays_287 rfl 0 rfl ?_
    refine z_get (ci := 7) F iX7 0 rfl rfl 21 (by decide) f4 rfl rfl dX7_goDays_288 ?_
    refine z_if_le 299 F dX7_goDays_291 (by decide) (fun c9 => ?_) (fun c9 => ?_)
    · have h := h.1 c9
      obtain ⟨x1_11, e9⟩ : ∃ z : Int32, z = x1 + 1 := ⟨_, rfl⟩
      have h := h x1_11 e9
      refine z_iinc (v := x1_11) [(1, .int x1_11), (0, .ref (a 0))] F dX7_goDays_299 1 rfl (by rw [e9]; rfl) (by decide) rfl ?_
      refine z_aload_n F dX7_goDays_302 rfl 1 rfl ?_
      refine z_dup F dX7_goDays_303 rfl ?_
      refine z_get (ci := 7) F iX7 0 rfl rfl 22 (by decide) f0 rfl rfl dX7_goDays_304 ?_
      refine z_iconst (v := 1) F dX7_goDays_307 rfl ?_
      refine z_iadd F dX7_goDays_308 ?_
      refine z_put (ci := 7) (ty := .int) (w_Mo G a (Mo_s_acts vm ((Mo_acts vm) + (1 : Int32)))) F iX7 tyX7 tyX7_ok nmX7 0 rfl rfl 22 (by decide) f0 rfl rfl rfl rfl rfl (Nat.le_of_ble_eq_true rfl) rfl dX7_goDays_309 ?_
      refine z_goto 17 F dX7_goDays_312 (by decide) ?_
      exact z_lv [1, 0] rfl (ih17 (Mo_s_acts vm ((Mo_acts vm) + (1 : Int32))) x1_11 h)
    · have h := h.2 c9
      refine z_aload_n F dX7_goDays_294 rfl 0 rfl ?_
      refine z_get (ci := 7) F iX7 0 rfl rfl 22 (by decide) f0 rfl rfl dX7_goDays_295 ?_
      exact hret (Mo_acts vm) vm _ _ h dX7_goDays_298
  have t107 : ∀ (K17 : Mo → Int32 → Prop) (ih17 : ∀ (vm : Mo) (x1 : Int32), K17 vm x1 → Z E 5 0 0 (w_Mo G a vm) [(0, .ref (a 0)), (1, .int x1)] 17 []) (vm : Mo) (x1 : Int32) (s1 : Int32) (s2 : Int32) (s3 : Int32), wpX7_goDays_B107 Q K17 vm x1 s1 s2 s3 → Z E 5 0 0 (w_Mo G a vm) [(0, .ref (a 0)), (1, .int x1)] 107 [.int s3, .int s2, .int s1, .ref (a 8)] := by
    intro K17 ih17 vm x1 s1 s2 s3 h
    unfold wpX7_goDays_B107 at h
    refine z_iadd F dX7_goDays_107 ?_
    have h9 := h.1
    have h := h.2
    refine z_iast (w_Mo G a (Mo_s_shown vm (upd (Mo_shown vm) (s1).toNatClampNeg (s2 + s3)))) F 8 rfl h9 rfl dX7_goDays_108 ?_
    refine z_goto 287 F dX7_goDays_109 (by decide) ?_
    exact z_lv [0, 1] rfl (t287 K17 ih17 (Mo_s_shown vm (upd (Mo_shown vm) (s1).toNatClampNeg (s2 + s3))) x1 h)
  have t84 : ∀ (K17 : Mo → Int32 → Prop) (ih17 : ∀ (vm : Mo) (x1 : Int32), K17 vm x1 → Z E 5 0 0 (w_Mo G a vm) [(0, .ref (a 0)), (1, .int x1)] 17 []) (vm : Mo) (x1 : Int32) (x3 : Int32) (x4 : Int32) (s1 : Int32), wpX7_goDays_B84 Q K17 vm x1 x3 x4 s1 → Z E 5 0 0 (w_Mo G a vm) [(0, .ref (a 0)), (1, .int x1), (3, .int x3), (4, .int x4)] 84 [.int s1, .ref (a 0)] := by
    intro K17 ih17 vm x1 x3 x4 s1 h
    unfold wpX7_goDays_B84 at h
    refine z_put (ci := 7) (ty := .int) (w_Mo G a (Mo_s_reason vm s1)) F iX7 tyX7 tyX7_ok nmX7 0 rfl rfl 21 (by decide) f4 rfl rfl rfl rfl rfl (Nat.le_of_ble_eq_true rfl) rfl dX7_goDays_84 ?_
    refine z_aload_n F dX7_goDays_87 rfl 0 rfl ?_
    refine z_get (ci := 7) F iX7 0 rfl rfl 14 (by decide) f10 rfl rfl dX7_goDays_88 ?_
    refine z_iload_n F dX7_goDays_91 rfl 2 rfl ?_
    refine z_dup2 F dX7_goDays_92 rfl rfl ?_
    have h9 := h.1
    have h := h.2
    refine z_iald (f := (Mo_shown vm)) F 8 rfl h9 dX7_goDays_93 ?_
    refine z_aload_n F dX7_goDays_94 rfl 0 rfl ?_
    refine z_get (ci := 7) (v := .int s1) F iX7 0 rfl rfl 21 (by decide) f4 rfl rfl dX7_goDays_95 ?_
    refine z_if_ne 106 F dX7_goDays_98 (by decide) (fun c9 => ?_) (fun c9 => ?_)
    · have h := h.1 c9
      refine z_iconst (v := 0) F dX7_goDays_106 rfl ?_
      exact z_lv [0, 1] rfl (t107 K17 ih17 (Mo_s_reason vm s1) x1 x3 ((Mo_shown vm) (x3).toNatClampNeg) (0 : Int32) h)
    · have h := h.2 c9
      refine z_iload F dX7_goDays_101 3 rfl ?_
      refine z_goto 107 F dX7_goDays_103 (by decide) ?_
      exact z_lv [0, 1] rfl (t107 K17 ih17 (Mo_s_reason vm s1) x1 x3 ((Mo_shown vm) (x3).toNatClampNeg) x4 h)
  have t144 : ∀ (K17 : Mo → Int32 → Prop) (ih17 : ∀ (vm : Mo) (x1 : Int32), K17 vm x1 → Z E 5 0 0 (w_Mo G a vm) [(0, .ref (a 0)), (1, .int x1)] 17 []) (vm : Mo) (x1 : Int32) (s1 : Int32), wpX7_goDays_B144 Q K17 vm x1 s1 → Z E 5 0 0 (w_Mo G a vm) [(0, .ref (a 0)), (1, .int x1)] 144 [.int s1, .ref (a 0)] := by
    intro K17 ih17 vm x1 s1 h
    unfold wpX7_goDays_B144 at h
    refine z_put (ci := 7) (ty := .int) (w_Mo G a (Mo_s_reason vm s1)) F iX7 tyX7 tyX7_ok nmX7 0 rfl rfl 21 (by decide) f4 rfl rfl rfl rfl rfl (Nat.le_of_ble_eq_true rfl) rfl dX7_goDays_144 ?_
    refine z_aload_n F dX7_goDays_147 rfl 0 rfl ?_
    refine z_get (ci := 7) F iX7 0 rfl rfl 16 (by decide) f9 rfl rfl dX7_goDays_148 ?_
    refine z_aload_n F dX7_goDays_151 rfl 0 rfl ?_
    refine z_get (ci := 7) F iX7 0 rfl rfl 13 (by decide) f3 rfl rfl dX7_goDays_152 ?_
    refine z_iload_n F dX7_goDays_155 rfl 1 rfl ?_
    have h9 := h.1
    have h := h.2
    refine z_iald (f := (Mo_pad vm)) F 7 rfl h9 dX7_goDays_156 ?_
    refine z_bipush (v := 48) F dX7_goDays_157 rfl ?_
    refine z_isub F dX7_goDays_159 ?_
    refine z_iconst (v := 0) F dX7_goDays_160 rfl ?_
    have h9 := h.1
    have h := h.2
    refine z_iast (f := (Mo_keep vm)) (w_Mo G a (Mo_s_keep (Mo_s_reason vm s1) (upd (Mo_keep vm) ((((Mo_pad vm) (x1).toNatClampNeg) - (48 : Int32))).toNatClampNeg (0 : Int32)))) F 10 rfl h9 rfl dX7_goDays_161 ?_
    refine z_goto 287 F dX7_goDays_162 (by decide) ?_
    exact z_lv [0, 1] rfl (t287 K17 ih17 (Mo_s_keep (Mo_s_reason vm s1) (upd (Mo_keep vm) ((((Mo_pad vm) (x1).toNatClampNeg) - (48 : Int32))).toNatClampNeg (0 : Int32))) x1 h)
  have t224 : ∀ (K17 : Mo → Int32 → Prop) (ih17 : ∀ (vm : Mo) (x1 : Int32), K17 vm x1 → Z E 5 0 0 (w_Mo G a vm) [(0, .ref (a 0)), (1, .int x1)] 17 []) (vm : Mo) (x1 : Int32) (s1 : Int32), wpX7_goDays_B224 Q K17 vm x1 s1 → Z E 5 0 0 (w_Mo G a vm) [(0, .ref (a 0)), (1, .int x1)] 224 [.int s1, .ref (a 0)] := by
    intro K17 ih17 vm x1 s1 h
    unfold wpX7_goDays_B224 at h
    refine z_put (ci := 7) (ty := .int) (w_Mo G a (Mo_s_reason vm s1)) F iX7 tyX7 tyX7_ok nmX7 0 rfl rfl 21 (by decide) f4 rfl rfl rfl rfl rfl (Nat.le_of_ble_eq_true rfl) rfl dX7_goDays_224 ?_
    refine z_aload_n F dX7_goDays_227 rfl 0 rfl ?_
    refine z_get (ci := 7) (v := .int s1) F iX7 0 rfl rfl 21 (by decide) f4 rfl rfl dX7_goDays_228 ?_
    refine z_if_ne 287 F dX7_goDays_231 (by decide) (fun c9 => ?_) (fun c9 => ?_)
    · have h := h.1 c9
      exact z_lv [0, 1] rfl (t287 K17 ih17 (Mo_s_reason vm s1) x1 h)
    · have h := h.2 c9
      refine z_aload_n F dX7_goDays_234 rfl 0 rfl ?_
      refine z_callVv (fun u9 => w_Mo G a u9) F (mX7_note G a (Mo_s_reason vm s1) _ h) gX7_goDays_X7_note rfl hdX7_note ⟨rfl, rfl, Nat.le_of_ble_eq_true rfl, Nat.le_of_ble_eq_true rfl, Nat.le_of_ble_eq_true rfl, Nat.le_of_ble_eq_true rfl⟩ 0 rfl rfl [0, 1, 2, 3, 4, 5, 6, 7, 8, 9, 10, 11, 12, 13, 14, 15, 16] [] [0, 1, 2, 3, 4, 5, 6, 7, 8, 9, 10, 11, 12, 13, 14, 15, 16] rfl rfl (by decide) (fun _ => rfl) rfl (Nat.le_of_ble_eq_true rfl) dX7_goDays_235 (fun vm_12 h => ?_)
      refine z_aload_n F dX7_goDays_238 rfl 0 rfl ?_
      refine z_callVv (fun u9 => w_Mo G a u9) F (mX7_pass G a vm_12 _ h) gX7_goDays_X7_pass rfl hdX7_pass ⟨rfl, rfl, Nat.le_of_ble_eq_true rfl, Nat.le_of_ble_eq_true rfl, Nat.le_of_ble_eq_true rfl, Nat.le_of_ble_eq_true rfl⟩ 0 rfl rfl [0, 1, 2, 3, 4, 5, 6, 7, 8, 9, 10, 11, 12, 13, 14, 15, 16] [] [0, 1, 2, 3, 4, 5, 6, 7, 8, 9, 10, 11, 12, 13, 14, 15, 16] rfl rfl (by decide) (fun _ => rfl) rfl (Nat.le_of_ble_eq_true rfl) dX7_goDays_239 (fun vm_13 h => ?_)
      refine z_goto 287 F dX7_goDays_242 (by decide) ?_
      exact z_lv [0, 1] rfl (t287 K17 ih17 vm_13 x1 h)
  have t17 : ∀ (n : Nat) (vm : Mo) (x1 : Int32), wpX7_goDays_L17 Q n vm x1 → Z E 5 0 0 (w_Mo G a vm) [(0, .ref (a 0)), (1, .int x1)] 17 [] := by
    intro n
    induction n with
    | zero => intro vm x1 h; exact h.elim
    | succ n ihQ =>
      have ih17 : ∀ (vm : Mo) (x1 : Int32), wpX7_goDays_L17 Q n vm x1 → Z E 5 0 0 (w_Mo G a vm) [(0, .ref (a 0)), (1, .int x1)] 17 [] := ihQ
      intro vm x1 h
      have h : wpX7_goDays_H17 Q (wpX7_goDays_L17 Q n) vm x1 := h
      generalize wpX7_goDays_L17 Q n = K17 at h ih17
      clear ihQ
      unfold wpX7_goDays_H17 at h
      refine z_iload_n F dX7_goDays_17 rfl 1 rfl ?_
      refine z_aload_n F dX7_goDays_18 rfl 0 rfl ?_
      refine z_get (ci := 7) F iX7 0 rfl rfl 12 (by decide) f2 rfl rfl dX7_goDays_19 ?_
      refine z_icmp_ge 315 F dX7_goDays_22 (by decide) (fun c9 => ?_) (fun c9 => ?_)
      · have h := h.1 c9
        refine z_aload_n F dX7_goDays_315 rfl 0 rfl ?_
        refine z_callVv (fun u9 => w_Mo G a u9) F (mX7_note G a vm _ h) gX7_goDays_X7_note rfl hdX7_note ⟨rfl, rfl, Nat.le_of_ble_eq_true rfl, Nat.le_of_ble_eq_true rfl, Nat.le_of_ble_eq_true rfl, Nat.le_of_ble_eq_true rfl⟩ 0 rfl rfl [0, 1, 2, 3, 4, 5, 6, 7, 8, 9, 10, 11, 12, 13, 14, 15, 16] [] [0, 1, 2, 3, 4, 5, 6, 7, 8, 9, 10, 11, 12, 13, 14, 15, 16] rfl rfl (by decide) (fun _ => rfl) rfl (Nat.le_of_ble_eq_true rfl) dX7_goDays_316 (fun vm_2 h => ?_)
        refine z_bipush (v := -6) F dX7_goDays_319 rfl ?_
        exact hret (-6 : Int32) vm_2 _ _ h dX7_goDays_321
      · have h := h.2 c9
        refine z_aload_n F dX7_goDays_25 rfl 0 rfl ?_
        refine z_get (ci := 7) F iX7 0 rfl rfl 13 (by decide) f3 rfl rfl dX7_goDays_26 ?_
        refine z_iload_n F dX7_goDays_29 rfl 1 rfl ?_
        have h9 := h.1
        have h := h.2
        refine z_iald F 7 rfl h9 dX7_goDays_30 ?_
        refine z_topi (fun x2_3 e9 => ?_)
        have h := h x2_3 e9
        refine z_istore_n [(2, .int x2_3), (0, .ref (a 0)), (1, .int x1)] F dX7_goDays_31 rfl (by decide) rfl ?_
        refine z_iload_n F dX7_goDays_32 rfl 0 rfl ?_
        refine z_callSi (fun _ => w_Mo G a vm) F (mX7_colourOf G x2_3 _ h) gX7_goDays_X7_colourOf rfl hdX7_colourOf ⟨rfl, rfl, Nat.le_of_ble_eq_true rfl, Nat.le_of_ble_eq_true rfl, Nat.le_of_ble_eq_true rfl, Nat.le_of_ble_eq_true rfl⟩ [] [0, 1, 2, 3, 4, 5, 6, 7, 8, 9, 10, 11, 12, 13, 14, 15, 16] [0, 1, 2, 3, 4, 5, 6, 7, 8, 9, 10, 11, 12, 13, 14, 15, 16] rfl rfl (by decide) (fun _ => rfl) rfl (Nat.le_of_ble_eq_true rfl) dX7_goDays_33 (fun r_4 u9 h => ?_)
        refine z_istore_n [(3, .int r_4), (2, .int x2_3), (0, .ref (a 0)), (1, .int x1)] F dX7_goDays_36 rfl (by decide) rfl ?_
        refine z_aload_n F dX7_goDays_37 rfl 2 rfl ?_
        refine z_iconst (v := 0) F dX7_goDays_38 rfl ?_
        refine z_put (ci := 7) (ty := .int) (w_Mo G a (Mo_s_reason vm (0 : Int32))) F iX7 tyX7 tyX7_ok nmX7 0 rfl rfl 21 (by decide) f4 rfl rfl rfl rfl rfl (Nat.le_of_ble_eq_true rfl) rfl dX7_goDays_39 ?_
        refine z_iload_n F dX7_goDays_42 rfl 0 rfl ?_
        refine z_if_lt 112 F dX7_goDays_43 (by decide) (fun c9 => ?_) (fun c9 => ?_)
        · have h := h.1 c9
          refine z_iload_n F dX7_goDays_112 rfl 1 rfl ?_
          refine z_bipush (v := 119) F dX7_goDays_113 rfl ?_
          refine z_icmp_ne 165 F dX7_goDays_115 (by decide) (fun c9 => ?_) (fun c9 => ?_)
          · have h := h.1 c9
            refine z_iload_n F dX7_goDays_165 rfl 1 rfl ?_
            refine z_bipush (v := 102) F dX7_goDays_166 rfl ?_
            refine z_icmp_ne 184 F dX7_goDays_168 (by decide) (fun c9 => ?_) (fun c9 => ?_)
            · have h := h.1 c9
              refine z_iload_n F dX7_goDays_184 rfl 1 rfl ?_
              refine z_bipush (v := 115) F dX7_goDays_185 rfl ?_
              refine z_icmp_ne 203 F dX7_goDays_187 (by decide) (fun c9 => ?_) (fun c9 => ?_)
              · have h := h.1 c9
                refine z_iload_n F dX7_goDays_203 rfl 1 rfl ?_
                refine z_bipush (v := 46) F dX7_goDays_204 rfl ?_
                refine z_icmp_ne 245 F dX7_goDays_206 (by decide) (fun c9 => ?_) (fun c9 => ?_)
                · have h := h.1 c9
                  refine z_aload_n F dX7_goDays_245 rfl 2 rfl ?_
                  refine z_aload_n F dX7_goDays_246 rfl 2 rfl ?_
                  refine z_iload_n F dX7_goDays_247 rfl 1 rfl ?_
                  refine z_bipush (v := 65) F dX7_goDays_248 rfl ?_
                  refine z_isub F dX7_goDays_250 ?_
                  refine z_callVi (fun u9 => w_Mo G a u9) F (mX7_whyNotWear G a (Mo_s_reason vm (0 : Int32)) (x2_3 - (65 : Int32)) _ h) gX7_goDays_X7_whyNotWear rfl hdX7_whyNotWear ⟨rfl, rfl, Nat.le_of_ble_eq_true rfl, Nat.le_of_ble_eq_true rfl, Nat.le_of_ble_eq_true rfl, Nat.le_of_ble_eq_true rfl⟩ 0 rfl rfl [0, 1, 2, 3, 4, 5, 6, 7, 8, 9, 10, 11, 12, 13, 14, 15, 16] [] [0, 1, 2, 3, 4, 5, 6, 7, 8, 9, 10, 11, 12, 13, 14, 15, 16] rfl rfl (by decide) (fun _ => rfl) rfl (Nat.le_of_ble_eq_true rfl) dX7_goDays_251 (fun r_5 vm_6 h => ?_)
                  refine z_put (ci := 7) (ty := .int) (w_Mo G a (Mo_s_reason vm_6 r_5)) F iX7 tyX7 tyX7_ok nmX7 0 rfl rfl 21 (by decide) f4 rfl rfl rfl rfl rfl (Nat.le_of_ble_eq_true rfl) rfl dX7_goDays_254 ?_
                  refine z_aload_n F dX7_goDays_257 rfl 2 rfl ?_
                  refine z_get (ci := 7) (v := .int r_5) F iX7 0 rfl rfl 21 (by decide) f4 rfl rfl dX7_goDays_258 ?_
                  refine z_if_ne 287 F dX7_goDays_261 (by decide) (fun c9 => ?_) (fun c9 => ?_)
                  · have h := h.1 c9
                    exact z_lv [2, 3] rfl (t287 K17 ih17 (Mo_s_reason vm_6 r_5) x1 h)
                  · have h := h.2 c9
                    refine z_aload_n F dX7_goDays_264 rfl 2 rfl ?_
                    refine z_iload_n F dX7_goDays_265 rfl 1 rfl ?_
                    refine z_bipush (v := 65) F dX7_goDays_266 rfl ?_
                    refine z_isub F dX7_goDays_268 ?_
                    refine z_callVv (fun u9 => w_Mo G a u9) F (mX7_wear G a (Mo_s_reason vm_6 r_5) (x2_3 - (65 : Int32)) _ h) gX7_goDays_X7_wear rfl hdX7_wear ⟨rfl, rfl, Nat.le_of_ble_eq_true rfl, Nat.le_of_ble_eq_true rfl, Nat.le_of_ble_eq_true rfl, Nat.le_of_ble_eq_true rfl⟩ 0 rfl rfl [0, 1, 2, 3, 4, 5, 6, 7, 8, 9, 10, 11, 12, 13, 14, 15, 16] [] [0, 1, 2, 3, 4, 5, 6, 7, 8, 9, 10, 11, 12, 13, 14, 15, 16] rfl rfl (by decide) (fun _ => rfl) rfl (Nat.le_of_ble_eq_true rfl) dX7_goDays_269 (fun vm_7 h => ?_)
                    refine z_aload_n F dX7_goDays_272 rfl 2 rfl ?_
                    refine z_dup F dX7_goDays_273 rfl ?_
                    refine z_get (ci := 7) F iX7 0 rfl rfl 19 (by decide) f5 rfl rfl dX7_goDays_274 ?_
                    refine z_iconst (v := 1) F dX7_goDays_277 rfl ?_
                    refine z_iload_n F dX7_goDays_278 rfl 1 rfl ?_
                    refine z_bipush (v := 65) F dX7_goDays_279 rfl ?_
                    refine z_isub F dX7_goDays_281 ?_
                    refine z_ishl F dX7_goDays_282 ?_
                    refine z_ior F dX7_goDays_283 ?_
                    refine z_put (ci := 7) (ty := .int) (w_Mo G a (Mo_s_outNow vm_7 ((Mo_outNow vm_7) ||| ((1 : Int32) <<< ((x2_3 - (65 : Int32)) &&& 31))))) F iX7 tyX7 tyX7_ok nmX7 0 rfl rfl 19 (by decide) f5 rfl rfl rfl rfl rfl (Nat.le_of_ble_eq_true rfl) rfl dX7_goDays_284 ?_
                    exact z_lv [2, 3] rfl (t287 K17 ih17 (Mo_s_outNow vm_7 ((Mo_outNow vm_7) ||| ((1 : Int32) <<< ((x2_3 - (65 : Int32)) &&& 31)))) x1 h)
                · have h := h.2 c9
                  refine z_aload_n F dX7_goDays_209 rfl 2 rfl ?_
                  refine z_aload_n F dX7_goDays_210 rfl 2 rfl ?_
                  refine z_get (ci := 7) (v := .int (Mo_dayNow vm)) F iX7 0 rfl rfl 20 (by decide) f6 rfl rfl dX7_goDays_211 ?_
                  refine z_bipush (v := 99) F dX7_goDays_214 rfl ?_
                  refine z_icmp_ne 223 F dX7_goDays_216 (by decide) (fun c9 => ?_) (fun c9 => ?_)
                  · have h := h.1 c9
                    refine z_iconst (v := 0) F dX7_goDays_223 rfl ?_
                    exact z_lv [2, 3] rfl (t224 K17 ih17 (Mo_s_reason vm (0 : Int32)) x1 (0 : Int32) h)
                  · have h := h.2 c9
                    refine z_iconst (v := 4) F dX7_goDays_219 rfl ?_
                    refine z_goto 224 F dX7_goDays_220 (by decide) ?_
                    exact z_lv [2, 3] rfl (t224 K17 ih17 (Mo_s_reason vm (0 : Int32)) x1 (4 : Int32) h)
              · have h := h.2 c9
                refine z_aload_n F dX7_goDays_190 rfl 2 rfl ?_
                refine z_iconst (v := 1) F dX7_goDays_191 rfl ?_
                refine z_aload_n F dX7_goDays_192 rfl 2 rfl ?_
                refine z_get (ci := 7) (v := .int (Mo_snowNow vm)) F iX7 0 rfl rfl 18 (by decide) f7 rfl rfl dX7_goDays_193 ?_
                refine z_isub F dX7_goDays_196 ?_
                refine z_put (ci := 7) (ty := .int) (w_Mo G a (Mo_s_snowNow (Mo_s_reason vm (0 : Int32)) ((1 : Int32) - (Mo_snowNow vm)))) F iX7 tyX7 tyX7_ok nmX7 0 rfl rfl 18 (by decide) f7 rfl rfl rfl rfl rfl (Nat.le_of_ble_eq_true rfl) rfl dX7_goDays_197 ?_
                refine z_goto 287 F dX7_goDays_200 (by decide) ?_
                exact z_lv [2, 3] rfl (t287 K17 ih17 (Mo_s_snowNow (Mo_s_reason vm (0 : Int32)) ((1 : Int32) - (Mo_snowNow vm))) x1 h)
            · have h := h.2 c9
              refine z_aload_n F dX7_goDays_171 rfl 2 rfl ?_
              refine z_iconst (v := 1) F dX7_goDays_172 rfl ?_
              refine z_aload_n F dX7_goDays_173 rfl 2 rfl ?_
              refine z_get (ci := 7) (v := .int (Mo_fogNow vm)) F iX7 0 rfl rfl 17 (by decide) f8 rfl rfl dX7_goDays_174 ?_
              refine z_isub F dX7_goDays_177 ?_
              refine z_put (ci := 7) (ty := .int) (w_Mo G a (Mo_s_fogNow (Mo_s_reason vm (0 : Int32)) ((1 : Int32) - (Mo_fogNow vm)))) F iX7 tyX7 tyX7_ok nmX7 0 rfl rfl 17 (by decide) f8 rfl rfl rfl rfl rfl (Nat.le_of_ble_eq_true rfl) rfl dX7_goDays_178 ?_
              refine z_goto 287 F dX7_goDays_181 (by decide) ?_
              exact z_lv [2, 3] rfl (t287 K17 ih17 (Mo_s_fogNow (Mo_s_reason vm (0 : Int32)) ((1 : Int32) - (Mo_fogNow vm))) x1 h)
          · have h := h.2 c9
            obtain ⟨x1_8, e9⟩ : ∃ z : Int32, z = x1 + 1 := ⟨_, rfl⟩
            have h := h x1_8 e9
            refine z_iinc (v := x1_8) [(1, .int x1_8), (3, .int r_4), (2, .int x2_3), (0, .ref (a 0))] F dX7_goDays_118 3 rfl (by rw [e9]; rfl) (by decide) rfl ?_
            refine z_aload_n F dX7_goDays_121 rfl 3 rfl ?_
            refine z_aload_n F dX7_goDays_122 rfl 3 rfl ?_
            refine z_get (ci := 7) F iX7 0 rfl rfl 16 (by decide) f9 rfl rfl dX7_goDays_123 ?_
            refine z_aload_n F dX7_goDays_126 rfl 3 rfl ?_
            refine z_get (ci := 7) F iX7 0 rfl rfl 13 (by decide) f3 rfl rfl dX7_goDays_127 ?_
            refine z_iload_n F dX7_goDays_130 rfl 0 rfl ?_
            have h9 := h.1
            have h := h.2
            refine z_iald (f := (Mo_pad vm)) F 7 rfl h9 dX7_goDays_131 ?_
            refine z_bipush (v := 48) F dX7_goDays_132 rfl ?_
            refine z_isub F dX7_goDays_134 ?_
            have h9 := h.1
            have h := h.2
            refine z_iald (f := (Mo_keep vm)) F 10 rfl h9 dX7_goDays_135 ?_
            refine z_if_ne 143 F dX7_goDays_136 (by decide) (fun c9 => ?_) (fun c9 => ?_)
            · have h := h.1 c9
              refine z_iconst (v := 0) F dX7_goDays_143 rfl ?_
              exact z_lv [3, 0] rfl (t144 K17 ih17 (Mo_s_reason vm (0 : Int32)) x1_8 (0 : Int32) h)
            · have h := h.2 c9
              refine z_iconst (v := 3) F dX7_goDays_139 rfl ?_
              refine z_goto 144 F dX7_goDays_140 (by decide) ?_
              exact z_lv [3, 0] rfl (t144 K17 ih17 (Mo_s_reason vm (0 : Int32)) x1_8 (3 : Int32) h)
        · have h := h.2 c9
          obtain ⟨x1_9, e9⟩ : ∃ z : Int32, z = x1 + 1 := ⟨_, rfl⟩
          have h := h x1_9 e9
          refine z_iinc (v := x1_9) [(1, .int x1_9), (3, .int r_4), (2, .int x2_3), (0, .ref (a 0))] F dX7_goDays_46 3 rfl (by rw [e9]; rfl) (by decide) rfl ?_
          refine z_bipush (v := 10) F dX7_goDays_49 rfl ?_
          refine z_aload_n F dX7_goDays_51 rfl 3 rfl ?_
          refine z_get (ci := 7) F iX7 0 rfl rfl 13 (by decide) f3 rfl rfl dX7_goDays_52 ?_
          refine z_iload_n F dX7_goDays_55 rfl 0 rfl ?_
          have h9 := h.1
          have h := h.2
          refine z_iald (f := (Mo_pad vm)) F 7 rfl h9 dX7_goDays_56 ?_
          refine z_bipush (v := 48) F dX7_goDays_57 rfl ?_
          refine z_isub F dX7_goDays_59 ?_
          refine z_imul F dX7_goDays_60 ?_
          refine z_topi (fun x4_10 e9 => ?_)
          have h := h x4_10 e9
          refine z_istore [(4, .int x4_10), (1, .int x1_9), (3, .int r_4), (2, .int x2_3), (0, .ref (a 0))] F dX7_goDays_61 (by decide) rfl ?_
          refine z_aload_n F dX7_goDays_63 rfl 4 rfl ?_
          refine z_aload_n F dX7_goDays_64 rfl 4 rfl ?_
          refine z_get (ci := 7) F iX7 0 rfl rfl 14 (by decide) f10 rfl rfl dX7_goDays_65 ?_
          refine z_iload_n F dX7_goDays_68 rfl 2 rfl ?_
          have h9 := h.1
          have h := h.2
          refine z_iald (f := (Mo_shown vm)) F 8 rfl h9 dX7_goDays_69 ?_
          refine z_iload F dX7_goDays_70 0 rfl ?_
          refine z_iadd F dX7_goDays_72 ?_
          refine z_sipush (v := 999) F dX7_goDays_73 rfl ?_
          refine z_icmp_le 83 F dX7_goDays_76 (by decide) (fun c9 => ?_) (fun c9 => ?_)
          · have h := h.1 c9
            refine z_iconst (v := 0) F dX7_goDays_83 rfl ?_
            exact z_lv [4, 1, 2, 0] rfl (t84 K17 ih17 (Mo_s_reason vm (0 : Int32)) x1_9 r_4 x4_10 (0 : Int32) h)
          · have h := h.2 c9
            refine z_iconst (v := 1) F dX7_goDays_79 rfl ?_
            refine z_goto 84 F dX7_goDays_80 (by decide) ?_
            exact z_lv [4, 1, 2, 0] rfl (t84 K17 ih17 (Mo_s_reason vm (0 : Int32)) x1_9 r_4 x4_10 (1 : Int32) h)
  unfold wpX7_goDays at h
  refine z_aload_n F dX7_goDays_0 rfl 0 rfl ?_
  refine z_callVv (fun u9 => w_Mo G a u9) F (mX7_asNow G a vm _ h) gX7_goDays_X7_asNow rfl hdX7_asNow ⟨rfl, rfl, Nat.le_of_ble_eq_true rfl, Nat.le_of_ble_eq_true rfl, Nat.le_of_ble_eq_true rfl, Nat.le_of_ble_eq_true rfl⟩ 0 rfl rfl [0, 1, 2, 3, 4, 5, 6, 7, 8, 9, 10, 11, 12, 13, 14, 15, 16] [] [0, 1, 2, 3, 4, 5, 6, 7, 8, 9, 10, 11, 12, 13, 14, 15, 16] rfl rfl (by decide) (fun _ => rfl) rfl (Nat.le_of_ble_eq_true rfl) dX7_goDays_1 (fun vm_1 h => ?_)
  refine z_aload_n F dX7_goDays_4 rfl 0 rfl ?_
  refine z_iconst (v := 0) F dX7_goDays_5 rfl ?_
  refine z_put (ci := 7) (ty := .int) (w_Mo G a (Mo_s_acts vm_1 (0 : Int32))) F iX7 tyX7 tyX7_ok nmX7 0 rfl rfl 22 (by decide) f0 rfl rfl rfl rfl rfl (Nat.le_of_ble_eq_true rfl) rfl dX7_goDays_6 ?_
  refine z_aload_n F dX7_goDays_9 rfl 0 rfl ?_
  refine z_bipush (v := -6) F dX7_goDays_10 rfl ?_
  refine z_put (ci := 7) (ty := .int) (w_Mo G a (Mo_s_brokenAt (Mo_s_acts vm_1 (0 : Int32)) (-6 : Int32))) F iX7 tyX7 tyX7_ok nmX7 0 rfl rfl 23 (by decide) f1 rfl rfl rfl rfl rfl (Nat.le_of_ble_eq_true rfl) rfl dX7_goDays_12 ?_
  refine z_iconst (v := 0) F dX7_goDays_15 rfl ?_
  refine z_istore_n [(1, .int (0 : Int32)), (0, .ref (a 0))] F dX7_goDays_16 rfl (by decide) rfl ?_
  obtain ⟨n9, h⟩ := h
  exact z_lv [1, 0] rfl (t17 n9 (Mo_s_brokenAt (Mo_s_acts vm_1 (0 : Int32)) (-6 : Int32)) (0 : Int32) h)
abbrev rmX7_judge : Room := { frames := 4, cells := 0, slots := 0, locals := 87 }
set_option maxRecDepth 100000 in
set_option maxHeartbeats 4000000 in
theorem mX7_judge (G : ZG) (a : Nat → Nat) (vm : Mo) (p1 : Int32) (Q : Int32 → Mo → Prop) (h : wpX7_judge vm p1 Q) : ZMi G yX7_judge wsX7_judge rmX7_judge [.ref (a 0), .int p1] (w_Mo G a vm) (fun vm : Mo => w_Mo G a vm) (Q) := by
  refine z_ofi (cc := cX7_judge) (N := 3) (lv := [(0, .ref (a 0)), (1, .int p1)]) (by decide) rfl (Nat.le_of_ble_eq_true rfl) rfl (fun E F hret => ?_)
  have F : ZF E 3 cX7_judge RX7 wsX7_judge rmX7_judge G := F
  have f0 : ZW E (.fieldLink RX7 125 "ColourEchoModel" "reason" "I") := F.at 1 rfl
  have iX7 : ∀ x ∈ u_ws RX7 TX7 30, x ∈ wsX7_judge := fun _ h => List.mem_cons_of_mem _ (List.mem_append_right _ h)
  unfold wpX7_judge at h
  refine z_iload_n F dX7_judge_0 rfl 1 rfl ?_
  refine z_iconst (v := 0) F dX7_judge_1 rfl ?_
  refine z_iconst (v := 1) F dX7_judge_2 rfl ?_
  refine z_callSi (fun _ => w_Mo G a vm) F (mX7_in G p1 (0 : Int32) (1 : Int32) _ h) gX7_judge_X7_in rfl hdX7_in ⟨rfl, rfl, Nat.le_of_ble_eq_true rfl, Nat.le_of_ble_eq_true rfl, Nat.le_of_ble_eq_true rfl, Nat.le_of_ble_eq_true rfl⟩ [] [0, 1, 2, 3, 4, 5, 6, 7, 8, 9, 10, 11, 12, 13, 14, 15, 16] [0, 1, 2, 3, 4, 5, 6, 7, 8, 9, 10, 11, 12, 13, 14, 15, 16] rfl rfl (by decide) (fun _ => rfl) rfl (Nat.le_of_ble_eq_true rfl) dX7_judge_3 (fun r_1 u9 h => ?_)
  refine z_if_ne 12 F dX7_judge_6 (by decide) (fun c9 => ?_) (fun c9 => ?_)
  · have h := h.1 c9
    refine z_aload_n F dX7_judge_12 rfl 0 rfl ?_
    refine z_callVi (fun u9 => w_Mo G a u9) F (mX7_faultOf G a vm _ h) gX7_judge_X7_faultOf rfl hdX7_faultOf ⟨rfl, rfl, Nat.le_of_ble_eq_true rfl, Nat.le_of_ble_eq_true rfl, Nat.le_of_ble_eq_true rfl, Nat.le_of_ble_eq_true rfl⟩ 0 rfl rfl [0, 1, 2, 3, 4, 5, 6, 7, 8, 9, 10, 11, 12, 13, 14, 15, 16] [] [0, 1, 2, 3, 4, 5, 6, 7, 8, 9, 10, 11, 12, 13, 14, 15, 16] rfl rfl (by decide) (fun _ => rfl) rfl (Nat.le_of_ble_eq_true rfl) dX7_judge_13 (fun r_2 vm_3 h => ?_)
    refine z_if_lt 22 F dX7_judge_16 (by decide) (fun c9 => ?_) (fun c9 => ?_)
    · have h := h.1 c9
      refine z_aload_n F dX7_judge_22 rfl 0 rfl ?_
      refine z_callVi (fun u9 => w_Mo G a u9) F (mX7_goDays G a vm_3 _ h) gX7_judge_X7_goDays rfl hdX7_goDays ⟨rfl, rfl, Nat.le_of_ble_eq_true rfl, Nat.le_of_ble_eq_true rfl, Nat.le_of_ble_eq_true rfl, Nat.le_of_ble_eq_true rfl⟩ 0 rfl rfl [0, 1, 2, 3, 4, 5, 6, 7, 8, 9, 10, 11, 12, 13, 14, 15, 16] [] [0, 1, 2, 3, 4, 5, 6, 7, 8, 9, 10, 11, 12, 13, 14, 15, 16] rfl rfl (by decide) (fun _ => rfl) rfl (Nat.le_of_ble_eq_true rfl) dX7_judge_23 (fun r_4 vm_5 h => ?_)
      refine z_istore_n [(2, .int r_4), (0, .ref (a 0)), (1, .int p1)] F dX7_judge_26 rfl (by decide) rfl ?_
      refine z_iload_n F dX7_judge_27 rfl 0 rfl ?_
      refine z_if_lt 35 F dX7_judge_28 (by decide) (fun c9 => ?_) (fun c9 => ?_)
      · have h := h.1 c9
        refine z_iload_n F dX7_judge_35 rfl 0 rfl ?_
        refine z_goto 43 F dX7_judge_36 (by decide) ?_
        exact hret r_4 vm_5 _ _ h dX7_judge_43
      · have h := h.2 c9
        refine z_iload_n F dX7_judge_31 rfl 2 rfl ?_
        refine z_if_ne 39 F dX7_judge_32 (by decide) (fun c9 => ?_) (fun c9 => ?_)
        · have h := h.1 c9
          refine z_aload_n F dX7_judge_39 rfl 1 rfl ?_
          refine z_get (ci := 7) F iX7 0 rfl rfl 21 (by decide) f0 rfl rfl dX7_judge_40 ?_
          exact hret (Mo_reason vm_5) vm_5 _ _ h dX7_judge_43
        · have h := h.2 c9
          refine z_iload_n F dX7_judge_35 rfl 0 rfl ?_
          refine z_goto 43 F dX7_judge_36 (by decide) ?_
          exact hret r_4 vm_5 _ _ h dX7_judge_43
    · have h := h.2 c9
      refine z_bipush (v := -5) F dX7_judge_19 rfl ?_
      exact hret (-5 : Int32) vm_3 _ _ h dX7_judge_21
  · have h := h.2 c9
    refine z_bipush (v := -2) F dX7_judge_9 rfl ?_
    exact hret (-2 : Int32) vm _ _ h dX7_judge_11
abbrev rmX7_barOfDays : Room := { frames := 4, cells := 0, slots := 0, locals := 87 }
set_option maxRecDepth 100000 in
set_option maxHeartbeats 4000000 in
theorem mX7_barOfDays (G : ZG) (a : Nat → Nat) (vm : Mo) (Q : Int32 → Mo → Prop) (h : wpX7_barOfDays vm Q) : ZMi G yX7_barOfDays wsX7_barOfDays rmX7_barOfDays [.ref (a 0)] (w_Mo G a vm) (fun vm : Mo => w_Mo G a vm) (Q) := by
  refine z_ofi (cc := cX7_barOfDays) (N := 1) (lv := [(0, .ref (a 0))]) (by decide) rfl (Nat.le_of_ble_eq_true rfl) rfl (fun E F hret => ?_)
  have F : ZF E 1 cX7_barOfDays RX7 wsX7_barOfDays rmX7_barOfDays G := F
  unfold wpX7_barOfDays at h
  refine z_aload_n F dX7_barOfDays_0 rfl 0 rfl ?_
  refine z_callVi (fun u9 => w_Mo G a u9) F (mX7_faultOf G a vm _ h) gX7_barOfDays_X7_faultOf rfl hdX7_faultOf ⟨rfl, rfl, Nat.le_of_ble_eq_true rfl, Nat.le_of_ble_eq_true rfl, Nat.le_of_ble_eq_true rfl, Nat.le_of_ble_eq_true rfl⟩ 0 rfl rfl [0, 1, 2, 3, 4, 5, 6, 7, 8, 9, 10, 11, 12, 13, 14, 15, 16] [] [0, 1, 2, 3, 4, 5, 6, 7, 8, 9, 10, 11, 12, 13, 14, 15, 16] rfl rfl (by decide) (fun _ => rfl) rfl (Nat.le_of_ble_eq_true rfl) dX7_barOfDays_1 (fun r_1 vm_2 h => ?_)
  refine z_if_ge 14 F dX7_barOfDays_4 (by decide) (fun c9 => ?_) (fun c9 => ?_)
  · have h := h.1 c9
    refine z_bipush (v := -5) F dX7_barOfDays_14 rfl ?_
    refine z_goto 20 F dX7_barOfDays_16 (by decide) ?_
    exact hret (-5 : Int32) vm_2 _ _ h dX7_barOfDays_20
  · have h := h.2 c9
    refine z_aload_n F dX7_barOfDays_7 rfl 0 rfl ?_
    refine z_callVi (fun u9 => w_Mo G a u9) F (mX7_goDays G a vm_2 _ h) gX7_barOfDays_X7_goDays rfl hdX7_goDays ⟨rfl, rfl, Nat.le_of_ble_eq_true rfl, Nat.le_of_ble_eq_true rfl, Nat.le_of_ble_eq_true rfl, Nat.le_of_ble_eq_true rfl⟩ 0 rfl rfl [0, 1, 2, 3, 4, 5, 6, 7, 8, 9, 10, 11, 12, 13, 14, 15, 16] [] [0, 1, 2, 3, 4, 5, 6, 7, 8, 9, 10, 11, 12, 13, 14, 15, 16] rfl rfl (by decide) (fun _ => rfl) rfl (Nat.le_of_ble_eq_true rfl) dX7_barOfDays_8 (fun r_3 vm_4 h => ?_)
    refine z_if_lt 19 F dX7_barOfDays_11 (by decide) (fun c9 => ?_) (fun c9 => ?_)
    · have h := h.1 c9
      refine z_iconst (v := 0) F dX7_barOfDays_19 rfl ?_
      exact hret (0 : Int32) vm_4 _ _ h dX7_barOfDays_20
    · have h := h.2 c9
      refine z_bipush (v := -5) F dX7_barOfDays_14 rfl ?_
      refine z_goto 20 F dX7_barOfDays_16 (by decide) ?_
      exact hret (-5 : Int32) vm_4 _ _ h dX7_barOfDays_20
abbrev rmX7_done : Room := { frames := 5, cells := 0, slots := 0, locals := 107 }
set_option maxRecDepth 100000 in
set_option maxHeartbeats 4000000 in
theorem mX7_done (G : ZG) (a : Nat → Nat) (vm : Mo) (Q : Int32 → Mo → Prop) (h : wpX7_done vm Q) : ZMi G yX7_done wsX7_done rmX7_done [.ref (a 0)] (w_Mo G a vm) (fun vm : Mo => w_Mo G a vm) (Q) := by
  refine z_ofi (cc := cX7_done) (N := 2) (lv := [(0, .ref (a 0))]) (by decide) rfl (Nat.le_of_ble_eq_true rfl) rfl (fun E F hret => ?_)
  have F : ZF E 2 cX7_done RX7 wsX7_done rmX7_done G := F
  have f0 : ZW E (.fieldLink RX7 23 "ColourEchoModel" "shownToday" "[I") := F.at 1 rfl
  have f1 : ZW E (.fieldLink RX7 35 "ColourEchoModel" "shown" "[I") := F.at 2 rfl
  have f2 : ZW E (.fieldLink RX7 26 "ColourEchoModel" "past" "[I") := F.at 3 rfl
  have f3 : ZW E (.fieldLink RX7 38 "ColourEchoModel" "then" "[I") := F.at 4 rfl
  have f4 : ZW E (.fieldLink RX7 81 "ColourEchoModel" "fogNow" "I") := F.at 7 rfl
  have f5 : ZW E (.fieldLink RX7 78 "ColourEchoModel" "fog" "I") := F.at 8 rfl
  have f6 : ZW E (.fieldLink RX7 87 "ColourEchoModel" "snowNow" "I") := F.at 9 rfl
  have f7 : ZW E (.fieldLink RX7 84 "ColourEchoModel" "snow" "I") := F.at 10 rfl
  have f8 : ZW E (.fieldLink RX7 93 "ColourEchoModel" "outNow" "I") := F.at 11 rfl
  have f9 : ZW E (.fieldLink RX7 90 "ColourEchoModel" "out" "I") := F.at 12 rfl
  have f10 : ZW E (.fieldLink RX7 99 "ColourEchoModel" "dayNow" "I") := F.at 13 rfl
  have f11 : ZW E (.fieldLink RX7 96 "ColourEchoModel" "day" "I") := F.at 14 rfl
  have f12 : ZW E (.fieldLink RX7 67 "ColourEchoModel" "signs" "I") := F.at 15 rfl
  have f13 : ZW E (.fieldLink RX7 122 "ColourEchoModel" "acts" "I") := F.at 16 rfl
  have f14 : ZW E (.fieldLink RX7 13 "ColourEchoModel" "keeps" "[I") := F.at 5 rfl
  have f15 : ZW E (.fieldLink RX7 41 "ColourEchoModel" "keep" "[I") := F.at 6 rfl
  have iX7 : ∀ x ∈ u_ws RX7 TX7 30, x ∈ wsX7_done := fun _ h => List.mem_cons_of_mem _ (List.mem_append_right _ h)
  have t63 : ∀ (n : Nat) (vm : Mo) (x1 : Int32), wpX7_done_L63 Q n vm x1 → Z E 2 0 0 (w_Mo G a vm) [(0, .ref (a 0)), (1, .int x1)] 63 [] := by
    intro n
    induction n with
    | zero => intro vm x1 h; exact h.elim
    | succ n ihQ =>
      have ih63 : ∀ (vm : Mo) (x1 : Int32), wpX7_done_L63 Q n vm x1 → Z E 2 0 0 (w_Mo G a vm) [(0, .ref (a 0)), (1, .int x1)] 63 [] := ihQ
      intro vm x1 h
      have h : wpX7_done_H63 Q (wpX7_done_L63 Q n) vm x1 := h
      generalize wpX7_done_L63 Q n = K63 at h ih63
      clear ihQ
      unfold wpX7_done_H63 at h
      refine z_iload_n F dX7_done_63 rfl 1 rfl ?_
      refine z_iconst (v := 4) F dX7_done_64 rfl ?_
      refine z_icmp_ge 86 F dX7_done_65 (by decide) (fun c9 => ?_) (fun c9 => ?_)
      · have h := h.1 c9
        refine z_aload_n F dX7_done_86 rfl 0 rfl ?_
        refine z_aload_n F dX7_done_87 rfl 0 rfl ?_
        refine z_get (ci := 7) F iX7 0 rfl rfl 17 (by decide) f4 rfl rfl dX7_done_88 ?_
        refine z_put (ci := 7) (ty := .int) (w_Mo G a (Mo_s_fog vm (Mo_fogNow vm))) F iX7 tyX7 tyX7_ok nmX7 0 rfl rfl 6 (by decide) f5 rfl rfl rfl rfl rfl (Nat.le_of_ble_eq_true rfl) rfl dX7_done_91 ?_
        refine z_aload_n F dX7_done_94 rfl 0 rfl ?_
        refine z_aload_n F dX7_done_95 rfl 0 rfl ?_
        refine z_get (ci := 7) (v := .int (Mo_snowNow vm)) F iX7 0 rfl rfl 18 (by decide) f6 rfl rfl dX7_done_96 ?_
        refine z_put (ci := 7) (ty := .int) (w_Mo G a (Mo_s_snow (Mo_s_fog vm (Mo_fogNow vm)) (Mo_snowNow vm))) F iX7 tyX7 tyX7_ok nmX7 0 rfl rfl 7 (by decide) f7 rfl rfl rfl rfl rfl (Nat.le_of_ble_eq_true rfl) rfl dX7_done_99 ?_
        refine z_aload_n F dX7_done_102 rfl 0 rfl ?_
        refine z_aload_n F dX7_done_103 rfl 0 rfl ?_
        refine z_get (ci := 7) (v := .int (Mo_outNow vm)) F iX7 0 rfl rfl 19 (by decide) f8 rfl rfl dX7_done_104 ?_
        refine z_put (ci := 7) (ty := .int) (w_Mo G a (Mo_s_out (Mo_s_snow (Mo_s_fog vm (Mo_fogNow vm)) (Mo_snowNow vm)) (Mo_outNow vm))) F iX7 tyX7 tyX7_ok nmX7 0 rfl rfl 8 (by decide) f9 rfl rfl rfl rfl rfl (Nat.le_of_ble_eq_true rfl) rfl dX7_done_107 ?_
        refine z_aload_n F dX7_done_110 rfl 0 rfl ?_
        refine z_aload_n F dX7_done_111 rfl 0 rfl ?_
        refine z_get (ci := 7) (v := .int (Mo_dayNow vm)) F iX7 0 rfl rfl 20 (by decide) f10 rfl rfl dX7_done_112 ?_
        refine z_put (ci := 7) (ty := .int) (w_Mo G a (Mo_s_day (Mo_s_out (Mo_s_snow (Mo_s_fog vm (Mo_fogNow vm)) (Mo_snowNow vm)) (Mo_outNow vm)) (Mo_dayNow vm))) F iX7 tyX7 tyX7_ok nmX7 0 rfl rfl 4 (by decide) f11 rfl rfl rfl rfl rfl (Nat.le_of_ble_eq_true rfl) rfl dX7_done_115 ?_
        refine z_aload_n F dX7_done_118 rfl 0 rfl ?_
        refine z_iconst (v := 0) F dX7_done_119 rfl ?_
        refine z_put (ci := 7) (ty := .int) (w_Mo G a (Mo_s_signs (Mo_s_day (Mo_s_out (Mo_s_snow (Mo_s_fog vm (Mo_fogNow vm)) (Mo_snowNow vm)) (Mo_outNow vm)) (Mo_dayNow vm)) (0 : Int32))) F iX7 tyX7 tyX7_ok nmX7 0 rfl rfl 12 (by decide) f12 rfl rfl rfl rfl rfl (Nat.le_of_ble_eq_true rfl) rfl dX7_done_120 ?_
        refine z_aload_n F dX7_done_123 rfl 0 rfl ?_
        refine z_get (ci := 7) (v := .int (Mo_acts vm)) F iX7 0 rfl rfl 22 (by decide) f13 rfl rfl dX7_done_124 ?_
        exact hret (Mo_acts vm) (Mo_s_signs (Mo_s_day (Mo_s_out (Mo_s_snow (Mo_s_fog vm (Mo_fogNow vm)) (Mo_snowNow vm)) (Mo_outNow vm)) (Mo_dayNow vm)) (0 : Int32)) _ _ h dX7_done_127
      · have h := h.2 c9
        refine z_aload_n F dX7_done_68 rfl 0 rfl ?_
        refine z_get (ci := 7) F iX7 0 rfl rfl 1 (by decide) f14 rfl rfl dX7_done_69 ?_
        refine z_iload_n F dX7_done_72 rfl 1 rfl ?_
        refine z_aload_n F dX7_done_73 rfl 0 rfl ?_
        refine z_get (ci := 7) F iX7 0 rfl rfl 16 (by decide) f15 rfl rfl dX7_done_74 ?_
        refine z_iload_n F dX7_done_77 rfl 1 rfl ?_
        have h9 := h.1
        have h := h.2
        refine z_iald F 10 rfl h9 dX7_done_78 ?_
        have h9 := h.1
        have h := h.2
        refine z_iast (w_Mo G a (Mo_s_keeps vm (upd (Mo_keeps vm) (x1).toNatClampNeg ((Mo_keep vm) (x1).toNatClampNeg)))) F 2 rfl h9 rfl dX7_done_79 ?_
        obtain ⟨x1_5, e9⟩ : ∃ z : Int32, z = x1 + 1 := ⟨_, rfl⟩
        have h := h x1_5 e9
        refine z_iinc (v := x1_5) [(1, .int x1_5), (0, .ref (a 0))] F dX7_done_80 1 rfl (by rw [e9]; rfl) (by decide) rfl ?_
        refine z_goto 63 F dX7_done_83 (by decide) ?_
        exact z_lv [1, 0] rfl (ih63 (Mo_s_keeps vm (upd (Mo_keeps vm) (x1).toNatClampNeg ((Mo_keep vm) (x1).toNatClampNeg))) x1_5 h)
  have t37 : ∀ (n : Nat) (vm : Mo) (x1 : Int32), wpX7_done_L37 Q n vm x1 → Z E 2 0 0 (w_Mo G a vm) [(0, .ref (a 0)), (1, .int x1)] 37 [] := by
    intro n
    induction n with
    | zero => intro vm x1 h; exact h.elim
    | succ n ihQ =>
      have ih37 : ∀ (vm : Mo) (x1 : Int32), wpX7_done_L37 Q n vm x1 → Z E 2 0 0 (w_Mo G a vm) [(0, .ref (a 0)), (1, .int x1)] 37 [] := ihQ
      intro vm x1 h
      have h : wpX7_done_H37 Q (wpX7_done_L37 Q n) vm x1 := h
      generalize wpX7_done_L37 Q n = K37 at h ih37
      clear ihQ
      unfold wpX7_done_H37 at h
      refine z_iload_n F dX7_done_37 rfl 1 rfl ?_
      refine z_bipush (v := 27) F dX7_done_38 rfl ?_
      refine z_icmp_ge 61 F dX7_done_40 (by decide) (fun c9 => ?_) (fun c9 => ?_)
      · have h := h.1 c9
        refine z_iconst (v := 0) F dX7_done_61 rfl ?_
        refine z_istore_n [(1, .int (0 : Int32)), (0, .ref (a 0))] F dX7_done_62 rfl (by decide) rfl ?_
        obtain ⟨n9, h⟩ := h
        exact z_lv [1, 0] rfl (t63 n9 vm (0 : Int32) h)
      · have h := h.2 c9
        refine z_aload_n F dX7_done_43 rfl 0 rfl ?_
        refine z_get (ci := 7) F iX7 0 rfl rfl 9 (by decide) f2 rfl rfl dX7_done_44 ?_
        refine z_iload_n F dX7_done_47 rfl 1 rfl ?_
        refine z_aload_n F dX7_done_48 rfl 0 rfl ?_
        refine z_get (ci := 7) F iX7 0 rfl rfl 15 (by decide) f3 rfl rfl dX7_done_49 ?_
        refine z_iload_n F dX7_done_52 rfl 1 rfl ?_
        have h9 := h.1
        have h := h.2
        refine z_iald F 9 rfl h9 dX7_done_53 ?_
        have h9 := h.1
        have h := h.2
        refine z_iast (w_Mo G a (Mo_s_past vm (upd (Mo_past vm) (x1).toNatClampNeg ((Mo_then vm) (x1).toNatClampNeg)))) F 5 rfl h9 rfl dX7_done_54 ?_
        obtain ⟨x1_4, e9⟩ : ∃ z : Int32, z = x1 + 1 := ⟨_, rfl⟩
        have h := h x1_4 e9
        refine z_iinc (v := x1_4) [(1, .int x1_4), (0, .ref (a 0))] F dX7_done_55 1 rfl (by rw [e9]; rfl) (by decide) rfl ?_
        refine z_goto 37 F dX7_done_58 (by decide) ?_
        exact z_lv [1, 0] rfl (ih37 (Mo_s_past vm (upd (Mo_past vm) (x1).toNatClampNeg ((Mo_then vm) (x1).toNatClampNeg))) x1_4 h)
  have t12 : ∀ (n : Nat) (vm : Mo) (x1 : Int32), wpX7_done_L12 Q n vm x1 → Z E 2 0 0 (w_Mo G a vm) [(0, .ref (a 0)), (1, .int x1)] 12 [] := by
    intro n
    induction n with
    | zero => intro vm x1 h; exact h.elim
    | succ n ihQ =>
      have ih12 : ∀ (vm : Mo) (x1 : Int32), wpX7_done_L12 Q n vm x1 → Z E 2 0 0 (w_Mo G a vm) [(0, .ref (a 0)), (1, .int x1)] 12 [] := ihQ
      intro vm x1 h
      have h : wpX7_done_H12 Q (wpX7_done_L12 Q n) vm x1 := h
      generalize wpX7_done_L12 Q n = K12 at h ih12
      clear ihQ
      unfold wpX7_done_H12 at h
      refine z_iload_n F dX7_done_12 rfl 1 rfl ?_
      refine z_iconst (v := 3) F dX7_done_13 rfl ?_
      refine z_icmp_ge 35 F dX7_done_14 (by decide) (fun c9 => ?_) (fun c9 => ?_)
      · have h := h.1 c9
        refine z_iconst (v := 0) F dX7_done_35 rfl ?_
        refine z_istore_n [(1, .int (0 : Int32)), (0, .ref (a 0))] F dX7_done_36 rfl (by decide) rfl ?_
        obtain ⟨n9, h⟩ := h
        exact z_lv [1, 0] rfl (t37 n9 vm (0 : Int32) h)
      · have h := h.2 c9
        refine z_aload_n F dX7_done_17 rfl 0 rfl ?_
        refine z_get (ci := 7) F iX7 0 rfl rfl 5 (by decide) f0 rfl rfl dX7_done_18 ?_
        refine z_iload_n F dX7_done_21 rfl 1 rfl ?_
        refine z_aload_n F dX7_done_22 rfl 0 rfl ?_
        refine z_get (ci := 7) F iX7 0 rfl rfl 14 (by decide) f1 rfl rfl dX7_done_23 ?_
        refine z_iload_n F dX7_done_26 rfl 1 rfl ?_
        have h9 := h.1
        have h := h.2
        refine z_iald F 8 rfl h9 dX7_done_27 ?_
        have h9 := h.1
        have h := h.2
        refine z_iast (w_Mo G a (Mo_s_shownToday vm (upd (Mo_shownToday vm) (x1).toNatClampNeg ((Mo_shown vm) (x1).toNatClampNeg)))) F 4 rfl h9 rfl dX7_done_28 ?_
        obtain ⟨x1_3, e9⟩ : ∃ z : Int32, z = x1 + 1 := ⟨_, rfl⟩
        have h := h x1_3 e9
        refine z_iinc (v := x1_3) [(1, .int x1_3), (0, .ref (a 0))] F dX7_done_29 1 rfl (by rw [e9]; rfl) (by decide) rfl ?_
        refine z_goto 12 F dX7_done_32 (by decide) ?_
        exact z_lv [1, 0] rfl (ih12 (Mo_s_shownToday vm (upd (Mo_shownToday vm) (x1).toNatClampNeg ((Mo_shown vm) (x1).toNatClampNeg))) x1_3 h)
  unfold wpX7_done at h
  refine z_aload_n F dX7_done_0 rfl 0 rfl ?_
  refine z_callVi (fun u9 => w_Mo G a u9) F (mX7_barOfDays G a vm _ h) gX7_done_X7_barOfDays rfl hdX7_barOfDays ⟨rfl, rfl, Nat.le_of_ble_eq_true rfl, Nat.le_of_ble_eq_true rfl, Nat.le_of_ble_eq_true rfl, Nat.le_of_ble_eq_true rfl⟩ 0 rfl rfl [0, 1, 2, 3, 4, 5, 6, 7, 8, 9, 10, 11, 12, 13, 14, 15, 16] [] [0, 1, 2, 3, 4, 5, 6, 7, 8, 9, 10, 11, 12, 13, 14, 15, 16] rfl rfl (by decide) (fun _ => rfl) rfl (Nat.le_of_ble_eq_true rfl) dX7_done_1 (fun r_1 vm_2 h => ?_)
  refine z_if_ge 10 F dX7_done_4 (by decide) (fun c9 => ?_) (fun c9 => ?_)
  · have h := h.1 c9
    refine z_iconst (v := 0) F dX7_done_10 rfl ?_
    refine z_istore_n [(1, .int (0 : Int32)), (0, .ref (a 0))] F dX7_done_11 rfl (by decide) rfl ?_
    obtain ⟨n9, h⟩ := h
    exact z_lv [1, 0] rfl (t12 n9 vm_2 (0 : Int32) h)
  · have h := h.2 c9
    refine z_bipush (v := -5) F dX7_done_7 rfl ?_
    exact hret (-5 : Int32) vm_2 _ _ h dX7_done_9
abbrev rmX7_behind : Room := { frames := 5, cells := 0, slots := 0, locals := 107 }
set_option maxRecDepth 100000 in
set_option maxHeartbeats 4000000 in
theorem mX7_behind (G : ZG) (a : Nat → Nat) (vm : Mo) (p1 : Int32) (Q : Int32 → Mo → Prop) (h : wpX7_behind vm p1 Q) : ZMi G yX7_behind wsX7_behind rmX7_behind [.ref (a 0), .int p1] (w_Mo G a vm) (fun vm : Mo => w_Mo G a vm) (Q) := by
  refine z_ofi (cc := cX7_behind) (N := 2) (lv := [(0, .ref (a 0)), (1, .int p1)]) (by decide) rfl (Nat.le_of_ble_eq_true rfl) rfl (fun E F hret => ?_)
  have F : ZF E 2 cX7_behind RX7 wsX7_behind rmX7_behind G := F
  have f0 : ZW E (.fieldLink RX7 99 "ColourEchoModel" "dayNow" "I") := F.at 1 rfl
  have iX7 : ∀ x ∈ u_ws RX7 TX7 30, x ∈ wsX7_behind := fun _ h => List.mem_cons_of_mem _ (List.mem_append_right _ h)
  unfold wpX7_behind at h
  refine z_iload_n F dX7_behind_0 rfl 1 rfl ?_
  refine z_iconst (v := 0) F dX7_behind_1 rfl ?_
  refine z_iconst (v := 3) F dX7_behind_2 rfl ?_
  refine z_callSi (fun _ => w_Mo G a vm) F (mX7_in G p1 (0 : Int32) (3 : Int32) _ h) gX7_behind_X7_in rfl hdX7_in ⟨rfl, rfl, Nat.le_of_ble_eq_true rfl, Nat.le_of_ble_eq_true rfl, Nat.le_of_ble_eq_true rfl, Nat.le_of_ble_eq_true rfl⟩ [] [0, 1, 2, 3, 4, 5, 6, 7, 8, 9, 10, 11, 12, 13, 14, 15, 16] [0, 1, 2, 3, 4, 5, 6, 7, 8, 9, 10, 11, 12, 13, 14, 15, 16] rfl rfl (by decide) (fun _ => rfl) rfl (Nat.le_of_ble_eq_true rfl) dX7_behind_3 (fun r_1 u9 h => ?_)
  refine z_if_ne 12 F dX7_behind_6 (by decide) (fun c9 => ?_) (fun c9 => ?_)
  · have h := h.1 c9
    refine z_aload_n F dX7_behind_12 rfl 0 rfl ?_
    refine z_callVi (fun u9 => w_Mo G a u9) F (mX7_barOfDays G a vm _ h) gX7_behind_X7_barOfDays rfl hdX7_barOfDays ⟨rfl, rfl, Nat.le_of_ble_eq_true rfl, Nat.le_of_ble_eq_true rfl, Nat.le_of_ble_eq_true rfl, Nat.le_of_ble_eq_true rfl⟩ 0 rfl rfl [0, 1, 2, 3, 4, 5, 6, 7, 8, 9, 10, 11, 12, 13, 14, 15, 16] [] [0, 1, 2, 3, 4, 5, 6, 7, 8, 9, 10, 11, 12, 13, 14, 15, 16] rfl rfl (by decide) (fun _ => rfl) rfl (Nat.le_of_ble_eq_true rfl) dX7_behind_13 (fun r_2 vm_3 h => ?_)
    refine z_if_ge 22 F dX7_behind_16 (by decide) (fun c9 => ?_) (fun c9 => ?_)
    · have h := h.1 c9
      refine z_iload_n F dX7_behind_22 rfl 1 rfl ?_
      refine z_iconst (v := 3) F dX7_behind_23 rfl ?_
      refine z_icmp_ne 34 F dX7_behind_24 (by decide) (fun c9 => ?_) (fun c9 => ?_)
      · have h := h.1 c9
        refine z_aload_n F dX7_behind_34 rfl 0 rfl ?_
        refine z_iload_n F dX7_behind_35 rfl 1 rfl ?_
        refine z_callVi (fun u9 => w_Mo G a u9) F (mX7_see G a vm_3 p1 _ h) gX7_behind_X7_see rfl hdX7_see ⟨rfl, rfl, Nat.le_of_ble_eq_true rfl, Nat.le_of_ble_eq_true rfl, Nat.le_of_ble_eq_true rfl, Nat.le_of_ble_eq_true rfl⟩ 0 rfl rfl [0, 1, 2, 3, 4, 5, 6, 7, 8, 9, 10, 11, 12, 13, 14, 15, 16] [] [0, 1, 2, 3, 4, 5, 6, 7, 8, 9, 10, 11, 12, 13, 14, 15, 16] rfl rfl (by decide) (fun _ => rfl) rfl (Nat.le_of_ble_eq_true rfl) dX7_behind_36 (fun r_4 vm_5 h => ?_)
        exact hret r_4 vm_5 _ _ h dX7_behind_39
      · have h := h.2 c9
        refine z_aload_n F dX7_behind_27 rfl 0 rfl ?_
        refine z_get (ci := 7) F iX7 0 rfl rfl 20 (by decide) f0 rfl rfl dX7_behind_28 ?_
        refine z_goto 39 F dX7_behind_31 (by decide) ?_
        exact hret (Mo_dayNow vm_3) vm_3 _ _ h dX7_behind_39
    · have h := h.2 c9
      refine z_bipush (v := -5) F dX7_behind_19 rfl ?_
      exact hret (-5 : Int32) vm_3 _ _ h dX7_behind_21
  · have h := h.2 c9
    refine z_bipush (v := -2) F dX7_behind_9 rfl ?_
    exact hret (-2 : Int32) vm _ _ h dX7_behind_11
abbrev rmX7_broken : Room := { frames := 5, cells := 0, slots := 0, locals := 107 }
set_option maxRecDepth 100000 in
set_option maxHeartbeats 4000000 in
theorem mX7_broken (G : ZG) (a : Nat → Nat) (vm : Mo) (Q : Int32 → Mo → Prop) (h : wpX7_broken vm Q) : ZMi G yX7_broken wsX7_broken rmX7_broken [.ref (a 0)] (w_Mo G a vm) (fun vm : Mo => w_Mo G a vm) (Q) := by
  refine z_ofi (cc := cX7_broken) (N := 1) (lv := [(0, .ref (a 0))]) (by decide) rfl (Nat.le_of_ble_eq_true rfl) rfl (fun E F hret => ?_)
  have F : ZF E 1 cX7_broken RX7 wsX7_broken rmX7_broken G := F
  have f0 : ZW E (.fieldLink RX7 115 "ColourEchoModel" "brokenAt" "I") := F.at 1 rfl
  have iX7 : ∀ x ∈ u_ws RX7 TX7 30, x ∈ wsX7_broken := fun _ h => List.mem_cons_of_mem _ (List.mem_append_right _ h)
  unfold wpX7_broken at h
  refine z_aload_n F dX7_broken_0 rfl 0 rfl ?_
  refine z_callVi (fun u9 => w_Mo G a u9) F (mX7_barOfDays G a vm _ h) gX7_broken_X7_barOfDays rfl hdX7_barOfDays ⟨rfl, rfl, Nat.le_of_ble_eq_true rfl, Nat.le_of_ble_eq_true rfl, Nat.le_of_ble_eq_true rfl, Nat.le_of_ble_eq_true rfl⟩ 0 rfl rfl [0, 1, 2, 3, 4, 5, 6, 7, 8, 9, 10, 11, 12, 13, 14, 15, 16] [] [0, 1, 2, 3, 4, 5, 6, 7, 8, 9, 10, 11, 12, 13, 14, 15, 16] rfl rfl (by decide) (fun _ => rfl) rfl (Nat.le_of_ble_eq_true rfl) dX7_broken_1 (fun r_1 vm_2 h => ?_)
  refine z_if_ge 12 F dX7_broken_4 (by decide) (fun c9 => ?_) (fun c9 => ?_)
  · have h := h.1 c9
    refine z_aload_n F dX7_broken_12 rfl 0 rfl ?_
    refine z_get (ci := 7) F iX7 0 rfl rfl 23 (by decide) f0 rfl rfl dX7_broken_13 ?_
    exact hret (Mo_brokenAt vm_2) vm_2 _ _ h dX7_broken_16
  · have h := h.2 c9
    refine z_bipush (v := -5) F dX7_broken_7 rfl ?_
    refine z_goto 16 F dX7_broken_9 (by decide) ?_
    exact hret (-5 : Int32) vm_2 _ _ h dX7_broken_16
abbrev rmX7_sees : Room := { frames := 1, cells := 0, slots := 0, locals := 23 }
set_option maxRecDepth 100000 in
set_option maxHeartbeats 4000000 in
theorem mX7_sees (G : ZG) (a : Nat → Nat) (vm : Mo) (p1 : Int32) (Q : Int32 → Mo → Prop) (h : wpX7_sees vm p1 Q) : ZMi G yX7_sees wsX7_sees rmX7_sees [.ref (a 0), .int p1] (w_Mo G a vm) (fun vm : Mo => w_Mo G a vm) (Q) := by
  refine z_ofi (cc := cX7_sees) (N := 2) (lv := [(0, .ref (a 0)), (1, .int p1)]) (by decide) rfl (Nat.le_of_ble_eq_true rfl) rfl (fun E F hret => ?_)
  have F : ZF E 2 cX7_sees RX7 wsX7_sees rmX7_sees G := F
  unfold wpX7_sees at h
  refine z_iload_n F dX7_sees_0 rfl 1 rfl ?_
  refine z_iconst (v := 0) F dX7_sees_1 rfl ?_
  refine z_iconst (v := 2) F dX7_sees_2 rfl ?_
  refine z_callSi (fun _ => w_Mo G a vm) F (mX7_in G p1 (0 : Int32) (2 : Int32) _ h) gX7_sees_X7_in rfl hdX7_in ⟨rfl, rfl, Nat.le_of_ble_eq_true rfl, Nat.le_of_ble_eq_true rfl, Nat.le_of_ble_eq_true rfl, Nat.le_of_ble_eq_true rfl⟩ [] [0, 1, 2, 3, 4, 5, 6, 7, 8, 9, 10, 11, 12, 13, 14, 15, 16] [0, 1, 2, 3, 4, 5, 6, 7, 8, 9, 10, 11, 12, 13, 14, 15, 16] rfl rfl (by decide) (fun _ => rfl) rfl (Nat.le_of_ble_eq_true rfl) dX7_sees_3 (fun r_1 u9 h => ?_)
  refine z_if_ne 12 F dX7_sees_6 (by decide) (fun c9 => ?_) (fun c9 => ?_)
  · have h := h.1 c9
    refine z_aload_n F dX7_sees_12 rfl 0 rfl ?_
    refine z_callVv (fun u9 => w_Mo G a u9) F (mX7_asNow G a vm _ h) gX7_sees_X7_asNow rfl hdX7_asNow ⟨rfl, rfl, Nat.le_of_ble_eq_true rfl, Nat.le_of_ble_eq_true rfl, Nat.le_of_ble_eq_true rfl, Nat.le_of_ble_eq_true rfl⟩ 0 rfl rfl [0, 1, 2, 3, 4, 5, 6, 7, 8, 9, 10, 11, 12, 13, 14, 15, 16] [] [0, 1, 2, 3, 4, 5, 6, 7, 8, 9, 10, 11, 12, 13, 14, 15, 16] rfl rfl (by decide) (fun _ => rfl) rfl (Nat.le_of_ble_eq_true rfl) dX7_sees_13 (fun vm_2 h => ?_)
    refine z_aload_n F dX7_sees_16 rfl 0 rfl ?_
    refine z_iload_n F dX7_sees_17 rfl 1 rfl ?_
    refine z_callVi (fun u9 => w_Mo G a u9) F (mX7_see G a vm_2 p1 _ h) gX7_sees_X7_see rfl hdX7_see ⟨rfl, rfl, Nat.le_of_ble_eq_true rfl, Nat.le_of_ble_eq_true rfl, Nat.le_of_ble_eq_true rfl, Nat.le_of_ble_eq_true rfl⟩ 0 rfl rfl [0, 1, 2, 3, 4, 5, 6, 7, 8, 9, 10, 11, 12, 13, 14, 15, 16] [] [0, 1, 2, 3, 4, 5, 6, 7, 8, 9, 10, 11, 12, 13, 14, 15, 16] rfl rfl (by decide) (fun _ => rfl) rfl (Nat.le_of_ble_eq_true rfl) dX7_sees_18 (fun r_3 vm_4 h => ?_)
    exact hret r_3 vm_4 _ _ h dX7_sees_21
  · have h := h.2 c9
    refine z_bipush (v := -2) F dX7_sees_9 rfl ?_
    exact hret (-2 : Int32) vm _ _ h dX7_sees_11
abbrev rmX7_isDay : Room := { frames := 1, cells := 0, slots := 0, locals := 22 }
set_option maxRecDepth 100000 in
set_option maxHeartbeats 4000000 in
theorem mX7_isDay (G : ZG) (p0 : Int32) (Q : Int32 → Prop) (h : wpX7_isDay p0 Q) : ZMi G yX7_isDay wsX7_isDay rmX7_isDay [.int p0] ([]) (fun _ : Unit => []) (fun r _ => Q r) := by
  refine z_ofz (cc := cX7_isDay) (N := 1) (lv := [(0, .int p0)]) (by decide) rfl (Nat.le_of_ble_eq_true rfl) rfl (fun E F hret => ?_)
  have F : ZF E 1 cX7_isDay RX7 wsX7_isDay rmX7_isDay G := F
  skip
  unfold wpX7_isDay at h
  refine z_iload_n F dX7_isDay_0 rfl 0 rfl ?_
  refine z_iconst (v := 0) F dX7_isDay_1 rfl ?_
  refine z_bipush (v := 60) F dX7_isDay_2 rfl ?_
  refine z_callSi (fun _ => []) F (mX7_in G p0 (0 : Int32) (60 : Int32) _ h) gX7_isDay_X7_in rfl hdX7_in ⟨rfl, rfl, Nat.le_of_ble_eq_true rfl, Nat.le_of_ble_eq_true rfl, Nat.le_of_ble_eq_true rfl, Nat.le_of_ble_eq_true rfl⟩ [] [] [] rfl rfl (by decide) (fun _ => rfl) rfl (Nat.le_of_ble_eq_true rfl) dX7_isDay_4 (fun r_1 u9 h => ?_)
  have h9 := h.1
  have h := h.2
  exact hret r_1 () _ _ h dX7_isDay_7 (zbz_n h9)
abbrev rmX7_forecast : Room := { frames := 3, cells := 0, slots := 0, locals := 71 }
set_option maxRecDepth 100000 in
set_option maxHeartbeats 4000000 in
theorem mX7_forecast (G : ZG) (a : Nat → Nat) (vm : Mo) (p1 : Int32) (p2 : Int32) (Q : Int32 → Mo → Prop) (h : wpX7_forecast vm p1 p2 Q) : ZMi G yX7_forecast wsX7_forecast rmX7_forecast [.ref (a 0), .int p1, .int p2] (w_Mo G a vm) (fun vm : Mo => w_Mo G a vm) (Q) := by
  refine z_ofi (cc := cX7_forecast) (N := 3) (lv := [(0, .ref (a 0)), (1, .int p1), (2, .int p2)]) (by decide) rfl (Nat.le_of_ble_eq_true rfl) rfl (fun E F hret => ?_)
  have F : ZF E 3 cX7_forecast RX7 wsX7_forecast rmX7_forecast G := F
  unfold wpX7_forecast at h
  refine z_iload_n F dX7_forecast_0 rfl 1 rfl ?_
  refine z_iconst (v := 0) F dX7_forecast_1 rfl ?_
  refine z_iconst (v := 2) F dX7_forecast_2 rfl ?_
  refine z_callSi (fun _ => w_Mo G a vm) F (mX7_in G p1 (0 : Int32) (2 : Int32) _ h) gX7_forecast_X7_in rfl hdX7_in ⟨rfl, rfl, Nat.le_of_ble_eq_true rfl, Nat.le_of_ble_eq_true rfl, Nat.le_of_ble_eq_true rfl, Nat.le_of_ble_eq_true rfl⟩ [] [0, 1, 2, 3, 4, 5, 6, 7, 8, 9, 10, 11, 12, 13, 14, 15, 16] [0, 1, 2, 3, 4, 5, 6, 7, 8, 9, 10, 11, 12, 13, 14, 15, 16] rfl rfl (by decide) (fun _ => rfl) rfl (Nat.le_of_ble_eq_true rfl) dX7_forecast_3 (fun r_1 u9 h => ?_)
  refine z_if_eq 16 F dX7_forecast_6 (by decide) (fun c9 => ?_) (fun c9 => ?_)
  · have h := h.1 c9
    refine z_bipush (v := -2) F dX7_forecast_16 rfl ?_
    exact hret (-2 : Int32) vm _ _ h dX7_forecast_18
  · have h := h.2 c9
    refine z_iload_n F dX7_forecast_9 rfl 2 rfl ?_
    refine z_callSi (fun _ => w_Mo G a vm) F (mX7_isDay G p2 _ h) gX7_forecast_X7_isDay rfl hdX7_isDay ⟨rfl, rfl, Nat.le_of_ble_eq_true rfl, Nat.le_of_ble_eq_true rfl, Nat.le_of_ble_eq_true rfl, Nat.le_of_ble_eq_true rfl⟩ [] [0, 1, 2, 3, 4, 5, 6, 7, 8, 9, 10, 11, 12, 13, 14, 15, 16] [0, 1, 2, 3, 4, 5, 6, 7, 8, 9, 10, 11, 12, 13, 14, 15, 16] rfl rfl (by decide) (fun _ => rfl) rfl (Nat.le_of_ble_eq_true rfl) dX7_forecast_10 (fun r_2 u9 h => ?_)
    refine z_if_ne 19 F dX7_forecast_13 (by decide) (fun c9 => ?_) (fun c9 => ?_)
    · have h := h.1 c9
      refine z_aload_n F dX7_forecast_19 rfl 0 rfl ?_
      refine z_callVv (fun u9 => w_Mo G a u9) F (mX7_asNow G a vm _ h) gX7_forecast_X7_asNow rfl hdX7_asNow ⟨rfl, rfl, Nat.le_of_ble_eq_true rfl, Nat.le_of_ble_eq_true rfl, Nat.le_of_ble_eq_true rfl, Nat.le_of_ble_eq_true rfl⟩ 0 rfl rfl [0, 1, 2, 3, 4, 5, 6, 7, 8, 9, 10, 11, 12, 13, 14, 15, 16] [] [0, 1, 2, 3, 4, 5, 6, 7, 8, 9, 10, 11, 12, 13, 14, 15, 16] rfl rfl (by decide) (fun _ => rfl) rfl (Nat.le_of_ble_eq_true rfl) dX7_forecast_20 (fun vm_3 h => ?_)
      refine z_aload_n F dX7_forecast_23 rfl 0 rfl ?_
      refine z_iload_n F dX7_forecast_24 rfl 2 rfl ?_
      refine z_callVv (fun u9 => w_Mo G a u9) F (mX7_waits G a vm_3 p2 _ h) gX7_forecast_X7_waits rfl hdX7_waits ⟨rfl, rfl, Nat.le_of_ble_eq_true rfl, Nat.le_of_ble_eq_true rfl, Nat.le_of_ble_eq_true rfl, Nat.le_of_ble_eq_true rfl⟩ 0 rfl rfl [0, 1, 2, 3, 4, 5, 6, 7, 8, 9, 10, 11, 12, 13, 14, 15, 16] [] [0, 1, 2, 3, 4, 5, 6, 7, 8, 9, 10, 11, 12, 13, 14, 15, 16] rfl rfl (by decide) (fun _ => rfl) rfl (Nat.le_of_ble_eq_true rfl) dX7_forecast_25 (fun vm_4 h => ?_)
      refine z_aload_n F dX7_forecast_28 rfl 0 rfl ?_
      refine z_iload_n F dX7_forecast_29 rfl 1 rfl ?_
      refine z_callVi (fun u9 => w_Mo G a u9) F (mX7_see G a vm_4 p1 _ h) gX7_forecast_X7_see rfl hdX7_see ⟨rfl, rfl, Nat.le_of_ble_eq_true rfl, Nat.le_of_ble_eq_true rfl, Nat.le_of_ble_eq_true rfl, Nat.le_of_ble_eq_true rfl⟩ 0 rfl rfl [0, 1, 2, 3, 4, 5, 6, 7, 8, 9, 10, 11, 12, 13, 14, 15, 16] [] [0, 1, 2, 3, 4, 5, 6, 7, 8, 9, 10, 11, 12, 13, 14, 15, 16] rfl rfl (by decide) (fun _ => rfl) rfl (Nat.le_of_ble_eq_true rfl) dX7_forecast_30 (fun r_5 vm_6 h => ?_)
      exact hret r_5 vm_6 _ _ h dX7_forecast_33
    · have h := h.2 c9
      refine z_bipush (v := -2) F dX7_forecast_16 rfl ?_
      exact hret (-2 : Int32) vm _ _ h dX7_forecast_18
abbrev rmX7_gone : Room := { frames := 2, cells := 0, slots := 0, locals := 49 }
set_option maxRecDepth 100000 in
set_option maxHeartbeats 4000000 in
theorem mX7_gone (G : ZG) (a : Nat → Nat) (vm : Mo) (Q : Int32 → Mo → Prop) (h : wpX7_gone vm Q) : ZMi G yX7_gone wsX7_gone rmX7_gone [.ref (a 0)] (w_Mo G a vm) (fun vm : Mo => w_Mo G a vm) (Q) := by
  refine z_ofi (cc := cX7_gone) (N := 3) (lv := [(0, .ref (a 0))]) (by decide) rfl (Nat.le_of_ble_eq_true rfl) rfl (fun E F hret => ?_)
  have F : ZF E 3 cX7_gone RX7 wsX7_gone rmX7_gone G := F
  have t28 : ∀ (K8 : Mo → Int32 → Int32 → Prop) (ih8 : ∀ (vm : Mo) (x1 : Int32) (x2 : Int32), K8 vm x1 x2 → Z E 3 0 0 (w_Mo G a vm) [(0, .ref (a 0)), (1, .int x1), (2, .int x2)] 8 []) (vm : Mo) (x2 : Int32) (s0 : Int32), wpX7_gone_B28 Q K8 vm x2 s0 → Z E 3 0 0 (w_Mo G a vm) [(0, .ref (a 0)), (2, .int x2)] 28 [.int s0] := by
    intro K8 ih8 vm x2 s0 h
    unfold wpX7_gone_B28 at h
    refine z_istore_n [(1, .int s0), (0, .ref (a 0)), (2, .int x2)] F dX7_gone_28 rfl (by decide) rfl ?_
    refine z_aload_n F dX7_gone_29 rfl 1 rfl ?_
    refine z_callVv (fun u9 => w_Mo G a u9) F (mX7_pass G a vm _ h) gX7_gone_X7_pass rfl hdX7_pass ⟨rfl, rfl, Nat.le_of_ble_eq_true rfl, Nat.le_of_ble_eq_true rfl, Nat.le_of_ble_eq_true rfl, Nat.le_of_ble_eq_true rfl⟩ 0 rfl rfl [0, 1, 2, 3, 4, 5, 6, 7, 8, 9, 10, 11, 12, 13, 14, 15, 16] [] [0, 1, 2, 3, 4, 5, 6, 7, 8, 9, 10, 11, 12, 13, 14, 15, 16] rfl rfl (by decide) (fun _ => rfl) rfl (Nat.le_of_ble_eq_true rfl) dX7_gone_30 (fun vm_4 h => ?_)
    obtain ⟨x2_5, e9⟩ : ∃ z : Int32, z = x2 + 1 := ⟨_, rfl⟩
    have h := h x2_5 e9
    refine z_iinc (v := x2_5) [(2, .int x2_5), (1, .int s0), (0, .ref (a 0))] F dX7_gone_33 2 rfl (by rw [e9]; rfl) (by decide) rfl ?_
    refine z_goto 8 F dX7_gone_36 (by decide) ?_
    exact z_lv [2, 1, 0] rfl (ih8 vm_4 s0 x2_5 h)
  have t8 : ∀ (n : Nat) (vm : Mo) (x1 : Int32) (x2 : Int32), wpX7_gone_L8 Q n vm x1 x2 → Z E 3 0 0 (w_Mo G a vm) [(0, .ref (a 0)), (1, .int x1), (2, .int x2)] 8 [] := by
    intro n
    induction n with
    | zero => intro vm x1 x2 h; exact h.elim
    | succ n ihQ =>
      have ih8 : ∀ (vm : Mo) (x1 : Int32) (x2 : Int32), wpX7_gone_L8 Q n vm x1 x2 → Z E 3 0 0 (w_Mo G a vm) [(0, .ref (a 0)), (1, .int x1), (2, .int x2)] 8 [] := ihQ
      intro vm x1 x2 h
      have h : wpX7_gone_H8 Q (wpX7_gone_L8 Q n) vm x1 x2 := h
      generalize wpX7_gone_L8 Q n = K8 at h ih8
      clear ihQ
      unfold wpX7_gone_H8 at h
      refine z_iload_n F dX7_gone_8 rfl 2 rfl ?_
      refine z_bipush (v := 61) F dX7_gone_9 rfl ?_
      refine z_icmp_ge 39 F dX7_gone_11 (by decide) (fun c9 => ?_) (fun c9 => ?_)
      · have h := h.1 c9
        refine z_iload_n F dX7_gone_39 rfl 1 rfl ?_
        refine z_bipush (v := 60) F dX7_gone_40 rfl ?_
        refine z_icmp_le 50 F dX7_gone_42 (by decide) (fun c9 => ?_) (fun c9 => ?_)
        · have h := h.1 c9
          refine z_iload_n F dX7_gone_50 rfl 1 rfl ?_
          exact hret x1 vm _ _ h dX7_gone_51
        · have h := h.2 c9
          refine z_bipush (v := -6) F dX7_gone_45 rfl ?_
          refine z_goto 51 F dX7_gone_47 (by decide) ?_
          exact hret (-6 : Int32) vm _ _ h dX7_gone_51
      · have h := h.2 c9
        refine z_aload_n F dX7_gone_14 rfl 0 rfl ?_
        refine z_callVi (fun u9 => w_Mo G a u9) F (mX7_seeAll G a vm _ h) gX7_gone_X7_seeAll rfl hdX7_seeAll ⟨rfl, rfl, Nat.le_of_ble_eq_true rfl, Nat.le_of_ble_eq_true rfl, Nat.le_of_ble_eq_true rfl, Nat.le_of_ble_eq_true rfl⟩ 0 rfl rfl [0, 1, 2, 3, 4, 5, 6, 7, 8, 9, 10, 11, 12, 13, 14, 15, 16] [] [0, 1, 2, 3, 4, 5, 6, 7, 8, 9, 10, 11, 12, 13, 14, 15, 16] rfl rfl (by decide) (fun _ => rfl) rfl (Nat.le_of_ble_eq_true rfl) dX7_gone_15 (fun r_2 vm_3 h => ?_)
        refine z_if_le 27 F dX7_gone_18 (by decide) (fun c9 => ?_) (fun c9 => ?_)
        · have h := h.1 c9
          refine z_iload_n F dX7_gone_27 rfl 1 rfl ?_
          exact z_lv [0, 2] rfl (t28 K8 ih8 vm_3 x2 x1 h)
        · have h := h.2 c9
          refine z_iload_n F dX7_gone_21 rfl 2 rfl ?_
          refine z_iconst (v := 1) F dX7_gone_22 rfl ?_
          refine z_iadd F dX7_gone_23 ?_
          refine z_goto 28 F dX7_gone_24 (by decide) ?_
          exact z_lv [0, 2] rfl (t28 K8 ih8 vm_3 x2 (x2 + (1 : Int32)) h)
  unfold wpX7_gone at h
  refine z_aload_n F dX7_gone_0 rfl 0 rfl ?_
  refine z_callVv (fun u9 => w_Mo G a u9) F (mX7_asNow G a vm _ h) gX7_gone_X7_asNow rfl hdX7_asNow ⟨rfl, rfl, Nat.le_of_ble_eq_true rfl, Nat.le_of_ble_eq_true rfl, Nat.le_of_ble_eq_true rfl, Nat.le_of_ble_eq_true rfl⟩ 0 rfl rfl [0, 1, 2, 3, 4, 5, 6, 7, 8, 9, 10, 11, 12, 13, 14, 15, 16] [] [0, 1, 2, 3, 4, 5, 6, 7, 8, 9, 10, 11, 12, 13, 14, 15, 16] rfl rfl (by decide) (fun _ => rfl) rfl (Nat.le_of_ble_eq_true rfl) dX7_gone_1 (fun vm_1 h => ?_)
  refine z_iconst (v := 0) F dX7_gone_4 rfl ?_
  refine z_istore_n [(1, .int (0 : Int32)), (0, .ref (a 0))] F dX7_gone_5 rfl (by decide) rfl ?_
  refine z_iconst (v := 0) F dX7_gone_6 rfl ?_
  refine z_istore_n [(2, .int (0 : Int32)), (1, .int (0 : Int32)), (0, .ref (a 0))] F dX7_gone_7 rfl (by decide) rfl ?_
  obtain ⟨n9, h⟩ := h
  exact z_lv [2, 1, 0] rfl (t8 n9 vm_1 (0 : Int32) (0 : Int32) h)
abbrev rmX7_hue : Room := { frames := 3, cells := 0, slots := 0, locals := 71 }
set_option maxRecDepth 100000 in
set_option maxHeartbeats 4000000 in
theorem mX7_hue (G : ZG) (a : Nat → Nat) (vm : Mo) (p1 : Int32) (Q : Int32 → Mo → Prop) (h : wpX7_hue vm p1 Q) : ZMi G yX7_hue wsX7_hue rmX7_hue [.ref (a 0), .int p1] (w_Mo G a vm) (fun vm : Mo => w_Mo G a vm) (Q) := by
  refine z_ofi (cc := cX7_hue) (N := 4) (lv := [(0, .ref (a 0)), (1, .int p1)]) (by decide) rfl (Nat.le_of_ble_eq_true rfl) rfl (fun E F hret => ?_)
  have F : ZF E 4 cX7_hue RX7 wsX7_hue rmX7_hue G := F
  have t55 : ∀ (K24 : Mo → Int32 → Int32 → Prop) (ih24 : ∀ (vm : Mo) (x2 : Int32) (x3 : Int32), K24 vm x2 x3 → Z E 4 0 0 (w_Mo G a vm) [(0, .ref (a 0)), (2, .int x2), (3, .int x3)] 24 []) (vm : Mo) (x3 : Int32) (s0 : Int32), wpX7_hue_B55 Q K24 vm x3 s0 → Z E 4 0 0 (w_Mo G a vm) [(0, .ref (a 0)), (3, .int x3)] 55 [.int s0] := by
    intro K24 ih24 vm x3 s0 h
    unfold wpX7_hue_B55 at h
    refine z_istore_n [(2, .int s0), (0, .ref (a 0)), (3, .int x3)] F dX7_hue_55 rfl (by decide) rfl ?_
    obtain ⟨x3_8, e9⟩ : ∃ z : Int32, z = x3 + 1 := ⟨_, rfl⟩
    have h := h x3_8 e9
    refine z_iinc (v := x3_8) [(3, .int x3_8), (2, .int s0), (0, .ref (a 0))] F dX7_hue_56 2 rfl (by rw [e9]; rfl) (by decide) rfl ?_
    refine z_goto 24 F dX7_hue_59 (by decide) ?_
    exact z_lv [2, 1, 0] rfl (ih24 vm s0 x3_8 h)
  have t47 : ∀ (K24 : Mo → Int32 → Int32 → Prop) (ih24 : ∀ (vm : Mo) (x2 : Int32) (x3 : Int32), K24 vm x2 x3 → Z E 4 0 0 (w_Mo G a vm) [(0, .ref (a 0)), (2, .int x2), (3, .int x3)] 24 []) (vm : Mo) (x2 : Int32) (x3 : Int32) (s0 : Int32) (s1 : Int32), wpX7_hue_B47 Q K24 vm x2 x3 s0 s1 → Z E 4 0 0 (w_Mo G a vm) [(0, .ref (a 0)), (2, .int x2), (3, .int x3)] 47 [.int s1, .int s0] := by
    intro K24 ih24 vm x2 x3 s0 s1 h
    unfold wpX7_hue_B47 at h
    refine z_icmp_le 54 F dX7_hue_47 (by decide) (fun c9 => ?_) (fun c9 => ?_)
    · have h := h.1 c9
      refine z_iload_n F dX7_hue_54 rfl 1 rfl ?_
      exact z_lv [0, 2] rfl (t55 K24 ih24 vm x3 x2 h)
    · have h := h.2 c9
      refine z_iload_n F dX7_hue_50 rfl 2 rfl ?_
      refine z_goto 55 F dX7_hue_51 (by decide) ?_
      exact z_lv [0, 2] rfl (t55 K24 ih24 vm x3 x3 h)
  have t24 : ∀ (n : Nat) (vm : Mo) (x2 : Int32) (x3 : Int32), wpX7_hue_L24 Q n vm x2 x3 → Z E 4 0 0 (w_Mo G a vm) [(0, .ref (a 0)), (2, .int x2), (3, .int x3)] 24 [] := by
    intro n
    induction n with
    | zero => intro vm x2 x3 h; exact h.elim
    | succ n ihQ =>
      have ih24 : ∀ (vm : Mo) (x2 : Int32) (x3 : Int32), wpX7_hue_L24 Q n vm x2 x3 → Z E 4 0 0 (w_Mo G a vm) [(0, .ref (a 0)), (2, .int x2), (3, .int x3)] 24 [] := ihQ
      intro vm x2 x3 h
      have h : wpX7_hue_H24 Q (wpX7_hue_L24 Q n) vm x2 x3 := h
      generalize wpX7_hue_L24 Q n = K24 at h ih24
      clear ihQ
      unfold wpX7_hue_H24 at h
      refine z_iload_n F dX7_hue_24 rfl 2 rfl ?_
      refine z_iconst (v := 3) F dX7_hue_25 rfl ?_
      refine z_icmp_ge 62 F dX7_hue_26 (by decide) (fun c9 => ?_) (fun c9 => ?_)
      · have h := h.1 c9
        refine z_iload_n F dX7_hue_62 rfl 1 rfl ?_
        exact hret x2 vm _ _ h dX7_hue_63
      · have h := h.2 c9
        refine z_aload_n F dX7_hue_29 rfl 0 rfl ?_
        refine z_iload_n F dX7_hue_30 rfl 2 rfl ?_
        refine z_callVi (fun u9 => w_Mo G a u9) F (mX7_see G a vm x3 _ h) gX7_hue_X7_see rfl hdX7_see ⟨rfl, rfl, Nat.le_of_ble_eq_true rfl, Nat.le_of_ble_eq_true rfl, Nat.le_of_ble_eq_true rfl, Nat.le_of_ble_eq_true rfl⟩ 0 rfl rfl [0, 1, 2, 3, 4, 5, 6, 7, 8, 9, 10, 11, 12, 13, 14, 15, 16] [] [0, 1, 2, 3, 4, 5, 6, 7, 8, 9, 10, 11, 12, 13, 14, 15, 16] rfl rfl (by decide) (fun _ => rfl) rfl (Nat.le_of_ble_eq_true rfl) dX7_hue_31 (fun r_4 vm_5 h => ?_)
        refine z_iload_n F dX7_hue_34 rfl 1 rfl ?_
        refine z_if_ge 42 F dX7_hue_35 (by decide) (fun c9 => ?_) (fun c9 => ?_)
        · have h := h.1 c9
          refine z_aload_n F dX7_hue_42 rfl 0 rfl ?_
          refine z_iload_n F dX7_hue_43 rfl 1 rfl ?_
          refine z_callVi (fun u9 => w_Mo G a u9) F (mX7_see G a vm_5 x2 _ h) gX7_hue_X7_see rfl hdX7_see ⟨rfl, rfl, Nat.le_of_ble_eq_true rfl, Nat.le_of_ble_eq_true rfl, Nat.le_of_ble_eq_true rfl, Nat.le_of_ble_eq_true rfl⟩ 0 rfl rfl [0, 1, 2, 3, 4, 5, 6, 7, 8, 9, 10, 11, 12, 13, 14, 15, 16] [] [0, 1, 2, 3, 4, 5, 6, 7, 8, 9, 10, 11, 12, 13, 14, 15, 16] rfl rfl (by decide) (fun _ => rfl) rfl (Nat.le_of_ble_eq_true rfl) dX7_hue_44 (fun r_6 vm_7 h => ?_)
          exact z_lv [0, 1, 2] rfl (t47 K24 ih24 vm_7 x2 x3 r_4 r_6 h)
        · have h := h.2 c9
          refine z_iconst (v := 0) F dX7_hue_38 rfl ?_
          refine z_goto 47 F dX7_hue_39 (by decide) ?_
          exact z_lv [0, 1, 2] rfl (t47 K24 ih24 vm_5 x2 x3 r_4 (0 : Int32) h)
  unfold wpX7_hue at h
  refine z_iload_n F dX7_hue_0 rfl 1 rfl ?_
  refine z_callSi (fun _ => w_Mo G a vm) F (mX7_isDay G p1 _ h) gX7_hue_X7_isDay rfl hdX7_isDay ⟨rfl, rfl, Nat.le_of_ble_eq_true rfl, Nat.le_of_ble_eq_true rfl, Nat.le_of_ble_eq_true rfl, Nat.le_of_ble_eq_true rfl⟩ [] [0, 1, 2, 3, 4, 5, 6, 7, 8, 9, 10, 11, 12, 13, 14, 15, 16] [0, 1, 2, 3, 4, 5, 6, 7, 8, 9, 10, 11, 12, 13, 14, 15, 16] rfl rfl (by decide) (fun _ => rfl) rfl (Nat.le_of_ble_eq_true rfl) dX7_hue_1 (fun r_1 u9 h => ?_)
  refine z_if_ne 10 F dX7_hue_4 (by decide) (fun c9 => ?_) (fun c9 => ?_)
  · have h := h.1 c9
    refine z_aload_n F dX7_hue_10 rfl 0 rfl ?_
    refine z_callVv (fun u9 => w_Mo G a u9) F (mX7_asNow G a vm _ h) gX7_hue_X7_asNow rfl hdX7_asNow ⟨rfl, rfl, Nat.le_of_ble_eq_true rfl, Nat.le_of_ble_eq_true rfl, Nat.le_of_ble_eq_true rfl, Nat.le_of_ble_eq_true rfl⟩ 0 rfl rfl [0, 1, 2, 3, 4, 5, 6, 7, 8, 9, 10, 11, 12, 13, 14, 15, 16] [] [0, 1, 2, 3, 4, 5, 6, 7, 8, 9, 10, 11, 12, 13, 14, 15, 16] rfl rfl (by decide) (fun _ => rfl) rfl (Nat.le_of_ble_eq_true rfl) dX7_hue_11 (fun vm_2 h => ?_)
    refine z_aload_n F dX7_hue_14 rfl 0 rfl ?_
    refine z_iload_n F dX7_hue_15 rfl 1 rfl ?_
    refine z_callVv (fun u9 => w_Mo G a u9) F (mX7_waits G a vm_2 p1 _ h) gX7_hue_X7_waits rfl hdX7_waits ⟨rfl, rfl, Nat.le_of_ble_eq_true rfl, Nat.le_of_ble_eq_true rfl, Nat.le_of_ble_eq_true rfl, Nat.le_of_ble_eq_true rfl⟩ 0 rfl rfl [0, 1, 2, 3, 4, 5, 6, 7, 8, 9, 10, 11, 12, 13, 14, 15, 16] [] [0, 1, 2, 3, 4, 5, 6, 7, 8, 9, 10, 11, 12, 13, 14, 15, 16] rfl rfl (by decide) (fun _ => rfl) rfl (Nat.le_of_ble_eq_true rfl) dX7_hue_16 (fun vm_3 h => ?_)
    refine z_bipush (v := -6) F dX7_hue_19 rfl ?_
    refine z_istore_n [(2, .int (-6 : Int32)), (0, .ref (a 0)), (1, .int p1)] F dX7_hue_21 rfl (by decide) rfl ?_
    refine z_iconst (v := 0) F dX7_hue_22 rfl ?_
    refine z_istore_n [(3, .int (0 : Int32)), (2, .int (-6 : Int32)), (0, .ref (a 0)), (1, .int p1)] F dX7_hue_23 rfl (by decide) rfl ?_
    obtain ⟨n9, h⟩ := h
    exact z_lv [2, 1, 0] rfl (t24 n9 vm_3 (-6 : Int32) (0 : Int32) h)
  · have h := h.2 c9
    refine z_bipush (v := -2) F dX7_hue_7 rfl ?_
    exact hret (-2 : Int32) vm _ _ h dX7_hue_9
abbrev rmX7_make : Room := { frames := 3, cells := 0, slots := 0, locals := 71 }
set_option maxRecDepth 100000 in
set_option maxHeartbeats 4000000 in
theorem mX7_make (G : ZG) (a : Nat → Nat) (vm : Mo) (p1 : Int32) (p2 : Int32) (p3 : Int32) (p4 : Int32) (Q : Int32 → Mo → Prop) (h : wpX7_make vm p1 p2 p3 p4 Q) : ZMi G yX7_make wsX7_make rmX7_make [.ref (a 0), .int p1, .int p2, .int p3, .int p4] (w_Mo G a vm) (fun vm : Mo => w_Mo G a vm) (Q) := by
  refine z_ofi (cc := cX7_make) (N := 6) (lv := [(0, .ref (a 0)), (1, .int p1), (2, .int p2), (3, .int p3), (4, .int p4)]) (by decide) rfl (Nat.le_of_ble_eq_true rfl) rfl (fun E F hret => ?_)
  have F : ZF E 6 cX7_make RX7 wsX7_make rmX7_make G := F
  have f0 : ZW E (.fieldLink RX7 35 "ColourEchoModel" "shown" "[I") := F.at 1 rfl
  have iX7 : ∀ x ∈ u_ws RX7 TX7 30, x ∈ wsX7_make := fun _ h => List.mem_cons_of_mem _ (List.mem_append_right _ h)
  have t43 : ∀ (n : Nat) (vm : Mo) (x1 : Int32) (x2 : Int32) (x3 : Int32) (x4 : Int32) (x5 : Int32), wpX7_make_L43 Q n vm x1 x2 x3 x4 x5 → Z E 6 0 0 (w_Mo G a vm) [(0, .ref (a 0)), (1, .int x1), (2, .int x2), (3, .int x3), (4, .int x4), (5, .int x5)] 43 [] := by
    intro n
    induction n with
    | zero => intro vm x1 x2 x3 x4 x5 h; exact h.elim
    | succ n ihQ =>
      have ih43 : ∀ (vm : Mo) (x1 : Int32) (x2 : Int32) (x3 : Int32) (x4 : Int32) (x5 : Int32), wpX7_make_L43 Q n vm x1 x2 x3 x4 x5 → Z E 6 0 0 (w_Mo G a vm) [(0, .ref (a 0)), (1, .int x1), (2, .int x2), (3, .int x3), (4, .int x4), (5, .int x5)] 43 [] := ihQ
      intro vm x1 x2 x3 x4 x5 h
      have h : wpX7_make_H43 Q (wpX7_make_L43 Q n) vm x1 x2 x3 x4 x5 := h
      generalize wpX7_make_L43 Q n = K43 at h ih43
      clear ihQ
      unfold wpX7_make_H43 at h
      refine z_iload F dX7_make_43 5 rfl ?_
      refine z_sipush (v := 1000) F dX7_make_45 rfl ?_
      refine z_icmp_ge 102 F dX7_make_48 (by decide) (fun c9 => ?_) (fun c9 => ?_)
      · have h := h.1 c9
        refine z_bipush (v := -6) F dX7_make_102 rfl ?_
        exact hret (-6 : Int32) vm _ _ h dX7_make_104
      · have h := h.2 c9
        refine z_aload_n F dX7_make_51 rfl 0 rfl ?_
        refine z_callVv (fun u9 => w_Mo G a u9) F (mX7_asNow G a vm _ h) gX7_make_X7_asNow rfl hdX7_asNow ⟨rfl, rfl, Nat.le_of_ble_eq_true rfl, Nat.le_of_ble_eq_true rfl, Nat.le_of_ble_eq_true rfl, Nat.le_of_ble_eq_true rfl⟩ 0 rfl rfl [0, 1, 2, 3, 4, 5, 6, 7, 8, 9, 10, 11, 12, 13, 14, 15, 16] [] [0, 1, 2, 3, 4, 5, 6, 7, 8, 9, 10, 11, 12, 13, 14, 15, 16] rfl rfl (by decide) (fun _ => rfl) rfl (Nat.le_of_ble_eq_true rfl) dX7_make_52 (fun vm_5 h => ?_)
        refine z_aload_n F dX7_make_55 rfl 0 rfl ?_
        refine z_get (ci := 7) F iX7 0 rfl rfl 14 (by decide) f0 rfl rfl dX7_make_56 ?_
        refine z_iload_n F dX7_make_59 rfl 1 rfl ?_
        refine z_dup2 F dX7_make_60 rfl rfl ?_
        have h9 := h.1
        have h := h.2
        refine z_iald F 8 rfl h9 dX7_make_61 ?_
        refine z_iload F dX7_make_62 5 rfl ?_
        refine z_iadd F dX7_make_64 ?_
        have h9 := h.1
        have h := h.2
        refine z_iast (w_Mo G a (Mo_s_shown vm_5 (upd (Mo_shown vm_5) (x1).toNatClampNeg (((Mo_shown vm_5) (x1).toNatClampNeg) + x5)))) F 8 rfl h9 rfl dX7_make_65 ?_
        refine z_aload_n F dX7_make_66 rfl 0 rfl ?_
        refine z_iload_n F dX7_make_67 rfl 2 rfl ?_
        refine z_callVv (fun u9 => w_Mo G a u9) F (mX7_waits G a (Mo_s_shown vm_5 (upd (Mo_shown vm_5) (x1).toNatClampNeg (((Mo_shown vm_5) (x1).toNatClampNeg) + x5))) x2 _ h) gX7_make_X7_waits rfl hdX7_waits ⟨rfl, rfl, Nat.le_of_ble_eq_true rfl, Nat.le_of_ble_eq_true rfl, Nat.le_of_ble_eq_true rfl, Nat.le_of_ble_eq_true rfl⟩ 0 rfl rfl [0, 1, 2, 3, 4, 5, 6, 7, 8, 9, 10, 11, 12, 13, 14, 15, 16] [] [0, 1, 2, 3, 4, 5, 6, 7, 8, 9, 10, 11, 12, 13, 14, 15, 16] rfl rfl (by decide) (fun _ => rfl) rfl (Nat.le_of_ble_eq_true rfl) dX7_make_68 (fun vm_6 h => ?_)
        refine z_aload_n F dX7_make_71 rfl 0 rfl ?_
        refine z_iload_n F dX7_make_72 rfl 1 rfl ?_
        refine z_callVi (fun u9 => w_Mo G a u9) F (mX7_see G a vm_6 x1 _ h) gX7_make_X7_see rfl hdX7_see ⟨rfl, rfl, Nat.le_of_ble_eq_true rfl, Nat.le_of_ble_eq_true rfl, Nat.le_of_ble_eq_true rfl, Nat.le_of_ble_eq_true rfl⟩ 0 rfl rfl [0, 1, 2, 3, 4, 5, 6, 7, 8, 9, 10, 11, 12, 13, 14, 15, 16] [] [0, 1, 2, 3, 4, 5, 6, 7, 8, 9, 10, 11, 12, 13, 14, 15, 16] rfl rfl (by decide) (fun _ => rfl) rfl (Nat.le_of_ble_eq_true rfl) dX7_make_73 (fun r_7 vm_8 h => ?_)
        refine z_iload_n F dX7_make_76 rfl 3 rfl ?_
        refine z_icmp_lt 96 F dX7_make_77 (by decide) (fun c9 => ?_) (fun c9 => ?_)
        · have h := h.1 c9
          obtain ⟨x5_9, e9⟩ : ∃ z : Int32, z = x5 + 1 := ⟨_, rfl⟩
          have h := h x5_9 e9
          refine z_iinc (v := x5_9) [(5, .int x5_9), (0, .ref (a 0)), (1, .int x1), (2, .int x2), (3, .int x3), (4, .int x4)] F dX7_make_96 5 rfl (by rw [e9]; rfl) (by decide) rfl ?_
          refine z_goto 43 F dX7_make_99 (by decide) ?_
          exact z_lv [1, 2, 3, 4, 5, 0] rfl (ih43 vm_8 x1 x2 x3 x4 x5_9 h)
        · have h := h.2 c9
          refine z_iload F dX7_make_80 4 rfl ?_
          refine z_if_ne 90 F dX7_make_82 (by decide) (fun c9 => ?_) (fun c9 => ?_)
          · have h := h.1 c9
            refine z_aload_n F dX7_make_90 rfl 0 rfl ?_
            refine z_iload_n F dX7_make_91 rfl 1 rfl ?_
            refine z_callVi (fun u9 => w_Mo G a u9) F (mX7_see G a vm_8 x1 _ h) gX7_make_X7_see rfl hdX7_see ⟨rfl, rfl, Nat.le_of_ble_eq_true rfl, Nat.le_of_ble_eq_true rfl, Nat.le_of_ble_eq_true rfl, Nat.le_of_ble_eq_true rfl⟩ 0 rfl rfl [0, 1, 2, 3, 4, 5, 6, 7, 8, 9, 10, 11, 12, 13, 14, 15, 16] [] [0, 1, 2, 3, 4, 5, 6, 7, 8, 9, 10, 11, 12, 13, 14, 15, 16] rfl rfl (by decide) (fun _ => rfl) rfl (Nat.le_of_ble_eq_true rfl) dX7_make_92 (fun r_10 vm_11 h => ?_)
            exact hret r_10 vm_11 _ _ h dX7_make_95
          · have h := h.2 c9
            refine z_iload F dX7_make_85 5 rfl ?_
            refine z_goto 95 F dX7_make_87 (by decide) ?_
            exact hret x5 vm_8 _ _ h dX7_make_95
  unfold wpX7_make at h
  refine z_iload_n F dX7_make_0 rfl 1 rfl ?_
  refine z_iconst (v := 0) F dX7_make_1 rfl ?_
  refine z_iconst (v := 2) F dX7_make_2 rfl ?_
  refine z_callSi (fun _ => w_Mo G a vm) F (mX7_in G p1 (0 : Int32) (2 : Int32) _ h) gX7_make_X7_in rfl hdX7_in ⟨rfl, rfl, Nat.le_of_ble_eq_true rfl, Nat.le_of_ble_eq_true rfl, Nat.le_of_ble_eq_true rfl, Nat.le_of_ble_eq_true rfl⟩ [] [0, 1, 2, 3, 4, 5, 6, 7, 8, 9, 10, 11, 12, 13, 14, 15, 16] [0, 1, 2, 3, 4, 5, 6, 7, 8, 9, 10, 11, 12, 13, 14, 15, 16] rfl rfl (by decide) (fun _ => rfl) rfl (Nat.le_of_ble_eq_true rfl) dX7_make_3 (fun r_1 u9 h => ?_)
  refine z_if_eq 37 F dX7_make_6 (by decide) (fun c9 => ?_) (fun c9 => ?_)
  · have h := h.1 c9
    refine z_bipush (v := -2) F dX7_make_37 rfl ?_
    exact hret (-2 : Int32) vm _ _ h dX7_make_39
  · have h := h.2 c9
    refine z_iload_n F dX7_make_9 rfl 2 rfl ?_
    refine z_callSi (fun _ => w_Mo G a vm) F (mX7_isDay G p2 _ h) gX7_make_X7_isDay rfl hdX7_isDay ⟨rfl, rfl, Nat.le_of_ble_eq_true rfl, Nat.le_of_ble_eq_true rfl, Nat.le_of_ble_eq_true rfl, Nat.le_of_ble_eq_true rfl⟩ [] [0, 1, 2, 3, 4, 5, 6, 7, 8, 9, 10, 11, 12, 13, 14, 15, 16] [0, 1, 2, 3, 4, 5, 6, 7, 8, 9, 10, 11, 12, 13, 14, 15, 16] rfl rfl (by decide) (fun _ => rfl) rfl (Nat.le_of_ble_eq_true rfl) dX7_make_10 (fun r_2 u9 h => ?_)
    refine z_if_eq 37 F dX7_make_13 (by decide) (fun c9 => ?_) (fun c9 => ?_)
    · have h := h.1 c9
      refine z_bipush (v := -2) F dX7_make_37 rfl ?_
      exact hret (-2 : Int32) vm _ _ h dX7_make_39
    · have h := h.2 c9
      refine z_iload_n F dX7_make_16 rfl 3 rfl ?_
      refine z_iconst (v := 0) F dX7_make_17 rfl ?_
      refine z_sipush (v := 999) F dX7_make_18 rfl ?_
      refine z_callSi (fun _ => w_Mo G a vm) F (mX7_in G p3 (0 : Int32) (999 : Int32) _ h) gX7_make_X7_in rfl hdX7_in ⟨rfl, rfl, Nat.le_of_ble_eq_true rfl, Nat.le_of_ble_eq_true rfl, Nat.le_of_ble_eq_true rfl, Nat.le_of_ble_eq_true rfl⟩ [] [0, 1, 2, 3, 4, 5, 6, 7, 8, 9, 10, 11, 12, 13, 14, 15, 16] [0, 1, 2, 3, 4, 5, 6, 7, 8, 9, 10, 11, 12, 13, 14, 15, 16] rfl rfl (by decide) (fun _ => rfl) rfl (Nat.le_of_ble_eq_true rfl) dX7_make_21 (fun r_3 u9 h => ?_)
      refine z_if_eq 37 F dX7_make_24 (by decide) (fun c9 => ?_) (fun c9 => ?_)
      · have h := h.1 c9
        refine z_bipush (v := -2) F dX7_make_37 rfl ?_
        exact hret (-2 : Int32) vm _ _ h dX7_make_39
      · have h := h.2 c9
        refine z_iload F dX7_make_27 4 rfl ?_
        refine z_iconst (v := 0) F dX7_make_29 rfl ?_
        refine z_iconst (v := 1) F dX7_make_30 rfl ?_
        refine z_callSi (fun _ => w_Mo G a vm) F (mX7_in G p4 (0 : Int32) (1 : Int32) _ h) gX7_make_X7_in rfl hdX7_in ⟨rfl, rfl, Nat.le_of_ble_eq_true rfl, Nat.le_of_ble_eq_true rfl, Nat.le_of_ble_eq_true rfl, Nat.le_of_ble_eq_true rfl⟩ [] [0, 1, 2, 3, 4, 5, 6, 7, 8, 9, 10, 11, 12, 13, 14, 15, 16] [0, 1, 2, 3, 4, 5, 6, 7, 8, 9, 10, 11, 12, 13, 14, 15, 16] rfl rfl (by decide) (fun _ => rfl) rfl (Nat.le_of_ble_eq_true rfl) dX7_make_31 (fun r_4 u9 h => ?_)
        refine z_if_ne 40 F dX7_make_34 (by decide) (fun c9 => ?_) (fun c9 => ?_)
        · have h := h.1 c9
          refine z_iconst (v := 0) F dX7_make_40 rfl ?_
          refine z_istore [(5, .int (0 : Int32)), (0, .ref (a 0)), (1, .int p1), (2, .int p2), (3, .int p3), (4, .int p4)] F dX7_make_41 (by decide) rfl ?_
          obtain ⟨n9, h⟩ := h
          exact z_lv [1, 2, 3, 4, 5, 0] rfl (t43 n9 vm p1 p2 p3 p4 (0 : Int32) h)
        · have h := h.2 c9
          refine z_bipush (v := -2) F dX7_make_37 rfl ?_
          exact hret (-2 : Int32) vm _ _ h dX7_make_39
abbrev rmX7_apartBy : Room := { frames := 0, cells := 0, slots := 0, locals := 0 }
set_option maxRecDepth 100000 in
set_option maxHeartbeats 4000000 in
theorem mX7_apartBy (G : ZG) (p0 : Int32) (p1 : Int32) (Q : Int32 → Prop) (h : wpX7_apartBy p0 p1 Q) : ZMi G yX7_apartBy wsX7_apartBy rmX7_apartBy [.int p0, .int p1] ([]) (fun _ : Unit => []) (fun r _ => Q r) := by
  refine z_ofi (cc := cX7_apartBy) (N := 2) (lv := [(0, .int p0), (1, .int p1)]) (by decide) rfl (Nat.le_of_ble_eq_true rfl) rfl (fun E F hret => ?_)
  have F : ZF E 2 cX7_apartBy RX7 wsX7_apartBy rmX7_apartBy G := F
  skip
  unfold wpX7_apartBy at h
  refine z_iload_n F dX7_apartBy_0 rfl 0 rfl ?_
  refine z_iload_n F dX7_apartBy_1 rfl 1 rfl ?_
  refine z_icmp_le 11 F dX7_apartBy_2 (by decide) (fun c9 => ?_) (fun c9 => ?_)
  · have h := h.1 c9
    refine z_iload_n F dX7_apartBy_11 rfl 1 rfl ?_
    refine z_iload_n F dX7_apartBy_12 rfl 0 rfl ?_
    refine z_isub F dX7_apartBy_13 ?_
    exact hret (p1 - p0) () _ _ h dX7_apartBy_14
  · have h := h.2 c9
    refine z_iload_n F dX7_apartBy_5 rfl 0 rfl ?_
    refine z_iload_n F dX7_apartBy_6 rfl 1 rfl ?_
    refine z_isub F dX7_apartBy_7 ?_
    refine z_goto 14 F dX7_apartBy_8 (by decide) ?_
    exact hret (p0 - p1) () _ _ h dX7_apartBy_14
abbrev rmX7_wish : Room := { frames := 3, cells := 0, slots := 0, locals := 71 }
set_option maxRecDepth 100000 in
set_option maxHeartbeats 4000000 in
theorem mX7_wish (G : ZG) (a : Nat → Nat) (vm : Mo) (p1 : Int32) (p2 : Int32) (p3 : Int32) (p4 : Int32) (Q : Int32 → Mo → Prop) (h : wpX7_wish vm p1 p2 p3 p4 Q) : ZMi G yX7_wish wsX7_wish rmX7_wish [.ref (a 0), .int p1, .int p2, .int p3, .int p4] (w_Mo G a vm) (fun vm : Mo => w_Mo G a vm) (Q) := by
  refine z_ofi (cc := cX7_wish) (N := 9) (lv := [(0, .ref (a 0)), (1, .int p1), (2, .int p2), (3, .int p3), (4, .int p4)]) (by decide) rfl (Nat.le_of_ble_eq_true rfl) rfl (fun E F hret => ?_)
  have F : ZF E 9 cX7_wish RX7 wsX7_wish rmX7_wish G := F
  have f0 : ZW E (.constant RX7 154 (999999999)) := F.at 1 rfl
  have f1 : ZW E (.constant RX7 155 (1000000)) := F.at 2 rfl
  have t98 : ∀ (K52 : Mo → Int32 → Int32 → Int32 → Int32 → Int32 → Int32 → Int32 → Prop) (K75 : Mo → Int32 → Int32 → Int32 → Int32 → Int32 → Int32 → Int32 → Int32 → Prop) (ih52 : ∀ (vm : Mo) (x1 : Int32) (x2 : Int32) (x3 : Int32) (x4 : Int32) (x5 : Int32) (x6 : Int32) (x7 : Int32), K52 vm x1 x2 x3 x4 x5 x6 x7 → Z E 9 0 0 (w_Mo G a vm) [(0, .ref (a 0)), (1, .int x1), (2, .int x2), (3, .int x3), (4, .int x4), (5, .int x5), (6, .int x6), (7, .int x7)] 52 []) (ih75 : ∀ (vm : Mo) (x1 : Int32) (x2 : Int32) (x3 : Int32) (x4 : Int32) (x5 : Int32) (x6 : Int32) (x7 : Int32) (x8 : Int32), K75 vm x1 x2 x3 x4 x5 x6 x7 x8 → Z E 9 0 0 (w_Mo G a vm) [(0, .ref (a 0)), (1, .int x1), (2, .int x2), (3, .int x3), (4, .int x4), (5, .int x5), (6, .int x6), (7, .int x7), (8, .int x8)] 75 []) (vm : Mo) (x1 : Int32) (x2 : Int32) (x3 : Int32) (x4 : Int32) (x5 : Int32) (x6 : Int32) (x7 : Int32) (x8 : Int32), wpX7_wish_B98 Q K52 K75 vm x1 x2 x3 x4 x5 x6 x7 x8 → Z E 9 0 0 (w_Mo G a vm) [(0, .ref (a 0)), (1, .int x1), (2, .int x2), (3, .int x3), (4, .int x4), (5, .int x5), (6, .int x6), (7, .int x7), (8, .int x8)] 98 [] := by
    intro K52 K75 ih52 ih75 vm x1 x2 x3 x4 x5 x6 x7 x8 h
    unfold wpX7_wish_B98 at h
    obtain ⟨x8_20, e9⟩ : ∃ z : Int32, z = x8 + 1 := ⟨_, rfl⟩
    have h := h x8_20 e9
    refine z_iinc (v := x8_20) [(8, .int x8_20), (0, .ref (a 0)), (1, .int x1), (2, .int x2), (3, .int x3), (4, .int x4), (5, .int x5), (6, .int x6), (7, .int x7)] F dX7_wish_98 8 rfl (by rw [e9]; rfl) (by decide) rfl ?_
    refine z_goto 75 F dX7_wish_101 (by decide) ?_
    exact z_lv [1, 2, 3, 4, 5, 6, 7, 8, 0] rfl (ih75 vm x1 x2 x3 x4 x5 x6 x7 x8_20 h)
  have t187 : ∀ (K52 : Mo → Int32 → Int32 → Int32 → Int32 → Int32 → Int32 → Int32 → Prop) (ih52 : ∀ (vm : Mo) (x1 : Int32) (x2 : Int32) (x3 : Int32) (x4 : Int32) (x5 : Int32) (x6 : Int32) (x7 : Int32), K52 vm x1 x2 x3 x4 x5 x6 x7 → Z E 9 0 0 (w_Mo G a vm) [(0, .ref (a 0)), (1, .int x1), (2, .int x2), (3, .int x3), (4, .int x4), (5, .int x5), (6, .int x6), (7, .int x7)] 52 []) (vm : Mo) (x1 : Int32) (x2 : Int32) (x3 : Int32) (x4 : Int32) (x5 : Int32) (x6 : Int32) (x7 : Int32), wpX7_wish_B187 Q K52 vm x1 x2 x3 x4 x5 x6 x7 → Z E 9 0 0 (w_Mo G a vm) [(0, .ref (a 0)), (1, .int x1), (2, .int x2), (3, .int x3), (4, .int x4), (5, .int x5), (6, .int x6), (7, .int x7)] 187 [] := by
    intro K52 ih52 vm x1 x2 x3 x4 x5 x6 x7 h
    unfold wpX7_wish_B187 at h
    obtain ⟨x7_6, e9⟩ : ∃ z : Int32, z = x7 + 1 := ⟨_, rfl⟩
    have h := h x7_6 e9
    refine z_iinc (v := x7_6) [(7, .int x7_6), (0, .ref (a 0)), (1, .int x1), (2, .int x2), (3, .int x3), (4, .int x4), (5, .int x5), (6, .int x6)] F dX7_wish_187 7 rfl (by rw [e9]; rfl) (by decide) rfl ?_
    refine z_goto 52 F dX7_wish_190 (by decide) ?_
    exact z_lv [1, 2, 3, 4, 5, 6, 7, 0] rfl (ih52 vm x1 x2 x3 x4 x5 x6 x7_6 h)
  have t185 : ∀ (K52 : Mo → Int32 → Int32 → Int32 → Int32 → Int32 → Int32 → Int32 → Prop) (ih52 : ∀ (vm : Mo) (x1 : Int32) (x2 : Int32) (x3 : Int32) (x4 : Int32) (x5 : Int32) (x6 : Int32) (x7 : Int32), K52 vm x1 x2 x3 x4 x5 x6 x7 → Z E 9 0 0 (w_Mo G a vm) [(0, .ref (a 0)), (1, .int x1), (2, .int x2), (3, .int x3), (4, .int x4), (5, .int x5), (6, .int x6), (7, .int x7)] 52 []) (vm : Mo) (x1 : Int32) (x2 : Int32) (x3 : Int32) (x4 : Int32) (x5 : Int32) (x7 : Int32) (s0 : Int32), wpX7_wish_B185 Q K52 vm x1 x2 x3 x4 x5 x7 s0 → Z E 9 0 0 (w_Mo G a vm) [(0, .ref (a 0)), (1, .int x1), (2, .int x2), (3, .int x3), (4, .int x4), (5, .int x5), (7, .int x7)] 185 [.int s0] := by
    intro K52 ih52 vm x1 x2 x3 x4 x5 x7 s0 h
    unfold wpX7_wish_B185 at h
    refine z_istore [(6, .int s0), (0, .ref (a 0)), (1, .int x1), (2, .int x2), (3, .int x3), (4, .int x4), (5, .int x5), (7, .int x7)] F dX7_wish_185 (by decide) rfl ?_
    exact z_lv [1, 2, 3, 4, 5, 6, 0, 7] rfl (t187 K52 ih52 vm x1 x2 x3 x4 x5 s0 x7 h)
  have t169 : ∀ (K52 : Mo → Int32 → Int32 → Int32 → Int32 → Int32 → Int32 → Int32 → Prop) (ih52 : ∀ (vm : Mo) (x1 : Int32) (x2 : Int32) (x3 : Int32) (x4 : Int32) (x5 : Int32) (x6 : Int32) (x7 : Int32), K52 vm x1 x2 x3 x4 x5 x6 x7 → Z E 9 0 0 (w_Mo G a vm) [(0, .ref (a 0)), (1, .int x1), (2, .int x2), (3, .int x3), (4, .int x4), (5, .int x5), (6, .int x6), (7, .int x7)] 52 []) (vm : Mo) (x1 : Int32) (x2 : Int32) (x3 : Int32) (x4 : Int32) (x6 : Int32) (x7 : Int32) (x8 : Int32) (s0 : Int32), wpX7_wish_B169 Q K52 vm x1 x2 x3 x4 x6 x7 x8 s0 → Z E 9 0 0 (w_Mo G a vm) [(0, .ref (a 0)), (1, .int x1), (2, .int x2), (3, .int x3), (4, .int x4), (6, .int x6), (7, .int x7), (8, .int x8)] 169 [.int s0] := by
    intro K52 ih52 vm x1 x2 x3 x4 x6 x7 x8 s0 h
    unfold wpX7_wish_B169 at h
    refine z_istore [(5, .int s0), (0, .ref (a 0)), (1, .int x1), (2, .int x2), (3, .int x3), (4, .int x4), (6, .int x6), (7, .int x7), (8, .int x8)] F dX7_wish_169 (by decide) rfl ?_
    refine z_iload F dX7_wish_171 8 rfl ?_
    refine z_iload F dX7_wish_173 6 rfl ?_
    refine z_icmp_ge 183 F dX7_wish_175 (by decide) (fun c9 => ?_) (fun c9 => ?_)
    · have h := h.1 c9
      refine z_iload F dX7_wish_183 6 rfl ?_
      exact z_lv [1, 2, 3, 4, 5, 0, 7] rfl (t185 K52 ih52 vm x1 x2 x3 x4 s0 x7 x6 h)
    · have h := h.2 c9
      refine z_iload F dX7_wish_178 8 rfl ?_
      refine z_goto 185 F dX7_wish_180 (by decide) ?_
      exact z_lv [1, 2, 3, 4, 5, 0, 7] rfl (t185 K52 ih52 vm x1 x2 x3 x4 s0 x7 x8 h)
  have t75 : ∀ (K52 : Mo → Int32 → Int32 → Int32 → Int32 → Int32 → Int32 → Int32 → Prop) (ih52 : ∀ (vm : Mo) (x1 : Int32) (x2 : Int32) (x3 : Int32) (x4 : Int32) (x5 : Int32) (x6 : Int32) (x7 : Int32), K52 vm x1 x2 x3 x4 x5 x6 x7 → Z E 9 0 0 (w_Mo G a vm) [(0, .ref (a 0)), (1, .int x1), (2, .int x2), (3, .int x3), (4, .int x4), (5, .int x5), (6, .int x6), (7, .int x7)] 52 []) (n : Nat) (vm : Mo) (x1 : Int32) (x2 : Int32) (x3 : Int32) (x4 : Int32) (x5 : Int32) (x6 : Int32) (x7 : Int32) (x8 : Int32), wpX7_wish_L75 Q K52 n vm x1 x2 x3 x4 x5 x6 x7 x8 → Z E 9 0 0 (w_Mo G a vm) [(0, .ref (a 0)), (1, .int x1), (2, .int x2), (3, .int x3), (4, .int x4), (5, .int x5), (6, .int x6), (7, .int x7), (8, .int x8)] 75 [] := by
    intro K52 ih52 n
    induction n with
    | zero => intro vm x1 x2 x3 x4 x5 x6 x7 x8 h; exact h.elim
    | succ n ihQ =>
      have ih75 : ∀ (vm : Mo) (x1 : Int32) (x2 : Int32) (x3 : Int32) (x4 : Int32) (x5 : Int32) (x6 : Int32) (x7 : Int32) (x8 : Int32), wpX7_wish_L75 Q K52 n vm x1 x2 x3 x4 x5 x6 x7 x8 → Z E 9 0 0 (w_Mo G a vm) [(0, .ref (a 0)), (1, .int x1), (2, .int x2), (3, .int x3), (4, .int x4), (5, .int x5), (6, .int x6), (7, .int x7), (8, .int x8)] 75 [] := ihQ
      intro vm x1 x2 x3 x4 x5 x6 x7 x8 h
      have h : wpX7_wish_H75 Q K52 (wpX7_wish_L75 Q K52 n) vm x1 x2 x3 x4 x5 x6 x7 x8 := h
      generalize wpX7_wish_L75 Q K52 n = K75 at h ih75
      clear ihQ
      unfold wpX7_wish_H75 at h
      refine z_iload F dX7_wish_75 8 rfl ?_
      refine z_bipush (v := 6) F dX7_wish_77 rfl ?_
      refine z_icmp_ge 104 F dX7_wish_79 (by decide) (fun c9 => ?_) (fun c9 => ?_)
      · have h := h.1 c9
        refine z_aload_n F dX7_wish_104 rfl 0 rfl ?_
        refine z_iload_n F dX7_wish_105 rfl 2 rfl ?_
        refine z_callVv (fun u9 => w_Mo G a u9) F (mX7_waits G a vm x2 _ h) gX7_wish_X7_waits rfl hdX7_waits ⟨rfl, rfl, Nat.le_of_ble_eq_true rfl, Nat.le_of_ble_eq_true rfl, Nat.le_of_ble_eq_true rfl, Nat.le_of_ble_eq_true rfl⟩ 0 rfl rfl [0, 1, 2, 3, 4, 5, 6, 7, 8, 9, 10, 11, 12, 13, 14, 15, 16] [] [0, 1, 2, 3, 4, 5, 6, 7, 8, 9, 10, 11, 12, 13, 14, 15, 16] rfl rfl (by decide) (fun _ => rfl) rfl (Nat.le_of_ble_eq_true rfl) dX7_wish_106 (fun vm_7 h => ?_)
        refine z_aload_n F dX7_wish_109 rfl 0 rfl ?_
        refine z_iconst (v := 0) F dX7_wish_110 rfl ?_
        refine z_callVi (fun u9 => w_Mo G a u9) F (mX7_see G a vm_7 (0 : Int32) _ h) gX7_wish_X7_see rfl hdX7_see ⟨rfl, rfl, Nat.le_of_ble_eq_true rfl, Nat.le_of_ble_eq_true rfl, Nat.le_of_ble_eq_true rfl, Nat.le_of_ble_eq_true rfl⟩ 0 rfl rfl [0, 1, 2, 3, 4, 5, 6, 7, 8, 9, 10, 11, 12, 13, 14, 15, 16] [] [0, 1, 2, 3, 4, 5, 6, 7, 8, 9, 10, 11, 12, 13, 14, 15, 16] rfl rfl (by decide) (fun _ => rfl) rfl (Nat.le_of_ble_eq_true rfl) dX7_wish_111 (fun r_8 vm_9 h => ?_)
        refine z_iload_n F dX7_wish_114 rfl 3 rfl ?_
        refine z_ldc (v := 1000000) F dX7_wish_115 f1 ?_
        refine z_idiv F dX7_wish_117 (by decide) ?_
        refine z_callSi (fun _ => w_Mo G a vm_9) F (mX7_apartBy G r_8 (x3 / (1000000 : Int32)) _ h) gX7_wish_X7_apartBy rfl hdX7_apartBy ⟨rfl, rfl, Nat.le_of_ble_eq_true rfl, Nat.le_of_ble_eq_true rfl, Nat.le_of_ble_eq_true rfl, Nat.le_of_ble_eq_true rfl⟩ [] [0, 1, 2, 3, 4, 5, 6, 7, 8, 9, 10, 11, 12, 13, 14, 15, 16] [0, 1, 2, 3, 4, 5, 6, 7, 8, 9, 10, 11, 12, 13, 14, 15, 16] rfl rfl (by decide) (fun _ => rfl) rfl (Nat.le_of_ble_eq_true rfl) dX7_wish_118 (fun r_10 u9 h => ?_)
        refine z_aload_n F dX7_wish_121 rfl 0 rfl ?_
        refine z_iconst (v := 1) F dX7_wish_122 rfl ?_
        refine z_callVi (fun u9 => w_Mo G a u9) F (mX7_see G a vm_9 (1 : Int32) _ h) gX7_wish_X7_see rfl hdX7_see ⟨rfl, rfl, Nat.le_of_ble_eq_true rfl, Nat.le_of_ble_eq_true rfl, Nat.le_of_ble_eq_true rfl, Nat.le_of_ble_eq_true rfl⟩ 0 rfl rfl [0, 1, 2, 3, 4, 5, 6, 7, 8, 9, 10, 11, 12, 13, 14, 15, 16] [] [0, 1, 2, 3, 4, 5, 6, 7, 8, 9, 10, 11, 12, 13, 14, 15, 16] rfl rfl (by decide) (fun _ => rfl) rfl (Nat.le_of_ble_eq_true rfl) dX7_wish_123 (fun r_11 vm_12 h => ?_)
        refine z_iload_n F dX7_wish_126 rfl 3 rfl ?_
        refine z_sipush (v := 1000) F dX7_wish_127 rfl ?_
        refine z_idiv F dX7_wish_130 (by decide) ?_
        refine z_sipush (v := 1000) F dX7_wish_131 rfl ?_
        refine z_irem F dX7_wish_134 (by decide) ?_
        refine z_callSi (fun _ => w_Mo G a vm_12) F (mX7_apartBy G r_11 ((x3 / (1000 : Int32)) - (x3 / (1000 : Int32)) / (1000 : Int32) * (1000 : Int32)) _ h) gX7_wish_X7_apartBy rfl hdX7_apartBy ⟨rfl, rfl, Nat.le_of_ble_eq_true rfl, Nat.le_of_ble_eq_true rfl, Nat.le_of_ble_eq_true rfl, Nat.le_of_ble_eq_true rfl⟩ [] [0, 1, 2, 3, 4, 5, 6, 7, 8, 9, 10, 11, 12, 13, 14, 15, 16] [0, 1, 2, 3, 4, 5, 6, 7, 8, 9, 10, 11, 12, 13, 14, 15, 16] rfl rfl (by decide) (fun _ => rfl) rfl (Nat.le_of_ble_eq_true rfl) dX7_wish_135 (fun r_13 u9 h => ?_)
        refine z_iadd F dX7_wish_138 ?_
        refine z_aload_n F dX7_wish_139 rfl 0 rfl ?_
        refine z_iconst (v := 2) F dX7_wish_140 rfl ?_
        refine z_callVi (fun u9 => w_Mo G a u9) F (mX7_see G a vm_12 (2 : Int32) _ h) gX7_wish_X7_see rfl hdX7_see ⟨rfl, rfl, Nat.le_of_ble_eq_true rfl, Nat.le_of_ble_eq_true rfl, Nat.le_of_ble_eq_true rfl, Nat.le_of_ble_eq_true rfl⟩ 0 rfl rfl [0, 1, 2, 3, 4, 5, 6, 7, 8, 9, 10, 11, 12, 13, 14, 15, 16] [] [0, 1, 2, 3, 4, 5, 6, 7, 8, 9, 10, 11, 12, 13, 14, 15, 16] rfl rfl (by decide) (fun _ => rfl) rfl (Nat.le_of_ble_eq_true rfl) dX7_wish_141 (fun r_14 vm_15 h => ?_)
        refine z_iload_n F dX7_wish_144 rfl 3 rfl ?_
        refine z_sipush (v := 1000) F dX7_wish_145 rfl ?_
        refine z_irem F dX7_wish_148 (by decide) ?_
        refine z_callSi (fun _ => w_Mo G a vm_15) F (mX7_apartBy G r_14 (x3 - x3 / (1000 : Int32) * (1000 : Int32)) _ h) gX7_wish_X7_apartBy rfl hdX7_apartBy ⟨rfl, rfl, Nat.le_of_ble_eq_true rfl, Nat.le_of_ble_eq_true rfl, Nat.le_of_ble_eq_true rfl, Nat.le_of_ble_eq_true rfl⟩ [] [0, 1, 2, 3, 4, 5, 6, 7, 8, 9, 10, 11, 12, 13, 14, 15, 16] [0, 1, 2, 3, 4, 5, 6, 7, 8, 9, 10, 11, 12, 13, 14, 15, 16] rfl rfl (by decide) (fun _ => rfl) rfl (Nat.le_of_ble_eq_true rfl) dX7_wish_149 (fun r_16 u9 h => ?_)
        refine z_iadd F dX7_wish_152 ?_
        refine z_topi (fun x8_17 e9 => ?_)
        have h := h x8_17 e9
        refine z_istore [(8, .int x8_17), (0, .ref (a 0)), (1, .int x1), (2, .int x2), (3, .int x3), (4, .int x4), (5, .int x5), (6, .int x6), (7, .int x7)] F dX7_wish_153 (by decide) rfl ?_
        refine z_iload F dX7_wish_155 0 rfl ?_
        refine z_iload F dX7_wish_157 7 rfl ?_
        refine z_icmp_ge 167 F dX7_wish_159 (by decide) (fun c9 => ?_) (fun c9 => ?_)
        · have h := h.1 c9
          refine z_iload F dX7_wish_167 6 rfl ?_
          exact z_lv [1, 2, 3, 4, 5, 7, 8, 0] rfl (t169 K52 ih52 vm_15 x1 x2 x3 x4 x6 x7 x8_17 x5 h)
        · have h := h.2 c9
          refine z_iload F dX7_wish_162 8 rfl ?_
          refine z_goto 169 F dX7_wish_164 (by decide) ?_
          exact z_lv [1, 2, 3, 4, 5, 7, 8, 0] rfl (t169 K52 ih52 vm_15 x1 x2 x3 x4 x6 x7 x8_17 x7 h)
      · have h := h.2 c9
        refine z_iload F dX7_wish_82 7 rfl ?_
        refine z_iload F dX7_wish_84 8 rfl ?_
        refine z_callSi (fun _ => w_Mo G a vm) F (mX7_has G x7 x8 _ h) gX7_wish_X7_has rfl hdX7_has ⟨rfl, rfl, Nat.le_of_ble_eq_true rfl, Nat.le_of_ble_eq_true rfl, Nat.le_of_ble_eq_true rfl, Nat.le_of_ble_eq_true rfl⟩ [] [0, 1, 2, 3, 4, 5, 6, 7, 8, 9, 10, 11, 12, 13, 14, 15, 16] [0, 1, 2, 3, 4, 5, 6, 7, 8, 9, 10, 11, 12, 13, 14, 15, 16] rfl rfl (by decide) (fun _ => rfl) rfl (Nat.le_of_ble_eq_true rfl) dX7_wish_86 (fun r_18 u9 h => ?_)
        refine z_if_eq 98 F dX7_wish_89 (by decide) (fun c9 => ?_) (fun c9 => ?_)
        · have h := h.1 c9
          exact z_lv [0, 1, 2, 3, 4, 5, 6, 7, 8] rfl (t98 K52 K75 ih52 ih75 vm x1 x2 x3 x4 x5 x6 x7 x8 h)
        · have h := h.2 c9
          refine z_aload_n F dX7_wish_92 rfl 0 rfl ?_
          refine z_iload F dX7_wish_93 8 rfl ?_
          refine z_callVv (fun u9 => w_Mo G a u9) F (mX7_wear G a vm x8 _ h) gX7_wish_X7_wear rfl hdX7_wear ⟨rfl, rfl, Nat.le_of_ble_eq_true rfl, Nat.le_of_ble_eq_true rfl, Nat.le_of_ble_eq_true rfl, Nat.le_of_ble_eq_true rfl⟩ 0 rfl rfl [0, 1, 2, 3, 4, 5, 6, 7, 8, 9, 10, 11, 12, 13, 14, 15, 16] [] [0, 1, 2, 3, 4, 5, 6, 7, 8, 9, 10, 11, 12, 13, 14, 15, 16] rfl rfl (by decide) (fun _ => rfl) rfl (Nat.le_of_ble_eq_true rfl) dX7_wish_95 (fun vm_19 h => ?_)
          exact z_lv [0, 1, 2, 3, 4, 5, 6, 7, 8] rfl (t98 K52 K75 ih52 ih75 vm_19 x1 x2 x3 x4 x5 x6 x7 x8 h)
  have t52 : ∀ (n : Nat) (vm : Mo) (x1 : Int32) (x2 : Int32) (x3 : Int32) (x4 : Int32) (x5 : Int32) (x6 : Int32) (x7 : Int32), wpX7_wish_L52 Q n vm x1 x2 x3 x4 x5 x6 x7 → Z E 9 0 0 (w_Mo G a vm) [(0, .ref (a 0)), (1, .int x1), (2, .int x2), (3, .int x3), (4, .int x4), (5, .int x5), (6, .int x6), (7, .int x7)] 52 [] := by
    intro n
    induction n with
    | zero => intro vm x1 x2 x3 x4 x5 x6 x7 h; exact h.elim
    | succ n ihQ =>
      have ih52 : ∀ (vm : Mo) (x1 : Int32) (x2 : Int32) (x3 : Int32) (x4 : Int32) (x5 : Int32) (x6 : Int32) (x7 : Int32), wpX7_wish_L52 Q n vm x1 x2 x3 x4 x5 x6 x7 → Z E 9 0 0 (w_Mo G a vm) [(0, .ref (a 0)), (1, .int x1), (2, .int x2), (3, .int x3), (4, .int x4), (5, .int x5), (6, .int x6), (7, .int x7)] 52 [] := ihQ
      intro vm x1 x2 x3 x4 x5 x6 x7 h
      have h : wpX7_wish_H52 Q (wpX7_wish_L52 Q n) vm x1 x2 x3 x4 x5 x6 x7 := h
      generalize wpX7_wish_L52 Q n = K52 at h ih52
      clear ihQ
      unfold wpX7_wish_H52 at h
      refine z_iload F dX7_wish_52 7 rfl ?_
      refine z_bipush (v := 64) F dX7_wish_54 rfl ?_
      refine z_icmp_ge 193 F dX7_wish_56 (by decide) (fun c9 => ?_) (fun c9 => ?_)
      · have h := h.1 c9
        refine z_iload F dX7_wish_193 4 rfl ?_
        refine z_if_ne 203 F dX7_wish_195 (by decide) (fun c9 => ?_) (fun c9 => ?_)
        · have h := h.1 c9
          refine z_iload F dX7_wish_203 5 rfl ?_
          exact hret x5 vm _ _ h dX7_wish_205
        · have h := h.2 c9
          refine z_iload F dX7_wish_198 6 rfl ?_
          refine z_goto 205 F dX7_wish_200 (by decide) ?_
          exact hret x6 vm _ _ h dX7_wish_205
      · have h := h.2 c9
        refine z_iload F dX7_wish_59 7 rfl ?_
        refine z_iload_n F dX7_wish_61 rfl 1 rfl ?_
        refine z_iconst (v := -1) F dX7_wish_62 rfl ?_
        refine z_ixor F dX7_wish_63 ?_
        refine z_iand F dX7_wish_64 ?_
        refine z_if_ne 187 F dX7_wish_65 (by decide) (fun c9 => ?_) (fun c9 => ?_)
        · have h := h.1 c9
          exact z_lv [0, 1, 2, 3, 4, 5, 6, 7] rfl (t187 K52 ih52 vm x1 x2 x3 x4 x5 x6 x7 h)
        · have h := h.2 c9
          refine z_aload_n F dX7_wish_68 rfl 0 rfl ?_
          refine z_callVv (fun u9 => w_Mo G a u9) F (mX7_asNow G a vm _ h) gX7_wish_X7_asNow rfl hdX7_asNow ⟨rfl, rfl, Nat.le_of_ble_eq_true rfl, Nat.le_of_ble_eq_true rfl, Nat.le_of_ble_eq_true rfl, Nat.le_of_ble_eq_true rfl⟩ 0 rfl rfl [0, 1, 2, 3, 4, 5, 6, 7, 8, 9, 10, 11, 12, 13, 14, 15, 16] [] [0, 1, 2, 3, 4, 5, 6, 7, 8, 9, 10, 11, 12, 13, 14, 15, 16] rfl rfl (by decide) (fun _ => rfl) rfl (Nat.le_of_ble_eq_true rfl) dX7_wish_69 (fun vm_5 h => ?_)
          refine z_iconst (v := 0) F dX7_wish_72 rfl ?_
          refine z_istore [(8, .int (0 : Int32)), (0, .ref (a 0)), (1, .int x1), (2, .int x2), (3, .int x3), (4, .int x4), (5, .int x5), (6, .int x6), (7, .int x7)] F dX7_wish_73 (by decide) rfl ?_
          obtain ⟨n9, h⟩ := h
          exact z_lv [1, 2, 3, 4, 5, 6, 7, 8, 0] rfl (t75 K52 ih52 n9 vm_5 x1 x2 x3 x4 x5 x6 x7 (0 : Int32) h)
  unfold wpX7_wish at h
  refine z_iload_n F dX7_wish_0 rfl 1 rfl ?_
  refine z_iconst (v := 0) F dX7_wish_1 rfl ?_
  refine z_bipush (v := 63) F dX7_wish_2 rfl ?_
  refine z_callSi (fun _ => w_Mo G a vm) F (mX7_in G p1 (0 : Int32) (63 : Int32) _ h) gX7_wish_X7_in rfl hdX7_in ⟨rfl, rfl, Nat.le_of_ble_eq_true rfl, Nat.le_of_ble_eq_true rfl, Nat.le_of_ble_eq_true rfl, Nat.le_of_ble_eq_true rfl⟩ [] [0, 1, 2, 3, 4, 5, 6, 7, 8, 9, 10, 11, 12, 13, 14, 15, 16] [0, 1, 2, 3, 4, 5, 6, 7, 8, 9, 10, 11, 12, 13, 14, 15, 16] rfl rfl (by decide) (fun _ => rfl) rfl (Nat.le_of_ble_eq_true rfl) dX7_wish_4 (fun r_1 u9 h => ?_)
  refine z_if_ne 12 F dX7_wish_7 (by decide) (fun c9 => ?_) (fun c9 => ?_)
  · have h := h.1 c9
    refine z_iload_n F dX7_wish_12 rfl 2 rfl ?_
    refine z_callSi (fun _ => w_Mo G a vm) F (mX7_isDay G p2 _ h) gX7_wish_X7_isDay rfl hdX7_isDay ⟨rfl, rfl, Nat.le_of_ble_eq_true rfl, Nat.le_of_ble_eq_true rfl, Nat.le_of_ble_eq_true rfl, Nat.le_of_ble_eq_true rfl⟩ [] [0, 1, 2, 3, 4, 5, 6, 7, 8, 9, 10, 11, 12, 13, 14, 15, 16] [0, 1, 2, 3, 4, 5, 6, 7, 8, 9, 10, 11, 12, 13, 14, 15, 16] rfl rfl (by decide) (fun _ => rfl) rfl (Nat.le_of_ble_eq_true rfl) dX7_wish_13 (fun r_2 u9 h => ?_)
    refine z_if_eq 39 F dX7_wish_16 (by decide) (fun c9 => ?_) (fun c9 => ?_)
    · have h := h.1 c9
      refine z_bipush (v := -2) F dX7_wish_39 rfl ?_
      exact hret (-2 : Int32) vm _ _ h dX7_wish_41
    · have h := h.2 c9
      refine z_iload_n F dX7_wish_19 rfl 3 rfl ?_
      refine z_iconst (v := 0) F dX7_wish_20 rfl ?_
      refine z_ldc (v := 999999999) F dX7_wish_21 f0 ?_
      refine z_callSi (fun _ => w_Mo G a vm) F (mX7_in G p3 (0 : Int32) (999999999 : Int32) _ h) gX7_wish_X7_in rfl hdX7_in ⟨rfl, rfl, Nat.le_of_ble_eq_true rfl, Nat.le_of_ble_eq_true rfl, Nat.le_of_ble_eq_true rfl, Nat.le_of_ble_eq_true rfl⟩ [] [0, 1, 2, 3, 4, 5, 6, 7, 8, 9, 10, 11, 12, 13, 14, 15, 16] [0, 1, 2, 3, 4, 5, 6, 7, 8, 9, 10, 11, 12, 13, 14, 15, 16] rfl rfl (by decide) (fun _ => rfl) rfl (Nat.le_of_ble_eq_true rfl) dX7_wish_23 (fun r_3 u9 h => ?_)
      refine z_if_eq 39 F dX7_wish_26 (by decide) (fun c9 => ?_) (fun c9 => ?_)
      · have h := h.1 c9
        refine z_bipush (v := -2) F dX7_wish_39 rfl ?_
        exact hret (-2 : Int32) vm _ _ h dX7_wish_41
      · have h := h.2 c9
        refine z_iload F dX7_wish_29 4 rfl ?_
        refine z_iconst (v := 0) F dX7_wish_31 rfl ?_
        refine z_iconst (v := 1) F dX7_wish_32 rfl ?_
        refine z_callSi (fun _ => w_Mo G a vm) F (mX7_in G p4 (0 : Int32) (1 : Int32) _ h) gX7_wish_X7_in rfl hdX7_in ⟨rfl, rfl, Nat.le_of_ble_eq_true rfl, Nat.le_of_ble_eq_true rfl, Nat.le_of_ble_eq_true rfl, Nat.le_of_ble_eq_true rfl⟩ [] [0, 1, 2, 3, 4, 5, 6, 7, 8, 9, 10, 11, 12, 13, 14, 15, 16] [0, 1, 2, 3, 4, 5, 6, 7, 8, 9, 10, 11, 12, 13, 14, 15, 16] rfl rfl (by decide) (fun _ => rfl) rfl (Nat.le_of_ble_eq_true rfl) dX7_wish_33 (fun r_4 u9 h => ?_)
        refine z_if_ne 42 F dX7_wish_36 (by decide) (fun c9 => ?_) (fun c9 => ?_)
        · have h := h.1 c9
          refine z_iconst (v := 0) F dX7_wish_42 rfl ?_
          refine z_istore [(5, .int (0 : Int32)), (0, .ref (a 0)), (1, .int p1), (2, .int p2), (3, .int p3), (4, .int p4)] F dX7_wish_43 (by decide) rfl ?_
          refine z_ldc (v := 1000000) F dX7_wish_45 f1 ?_
          refine z_istore [(6, .int (1000000 : Int32)), (5, .int (0 : Int32)), (0, .ref (a 0)), (1, .int p1), (2, .int p2), (3, .int p3), (4, .int p4)] F dX7_wish_47 (by decide) rfl ?_
          refine z_iconst (v := 0) F dX7_wish_49 rfl ?_
          refine z_istore [(7, .int (0 : Int32)), (6, .int (1000000 : Int32)), (5, .int (0 : Int32)), (0, .ref (a 0)), (1, .int p1), (2, .int p2), (3, .int p3), (4, .int p4)] F dX7_wish_50 (by decide) rfl ?_
          obtain ⟨n9, h⟩ := h
          exact z_lv [3, 4, 5, 6, 7, 2, 1, 0] rfl (t52 n9 vm p1 p2 p3 p4 (0 : Int32) (1000000 : Int32) (0 : Int32) h)
        · have h := h.2 c9
          refine z_bipush (v := -2) F dX7_wish_39 rfl ?_
          exact hret (-2 : Int32) vm _ _ h dX7_wish_41
  · have h := h.2 c9
    refine z_iconst (v := -1) F dX7_wish_10 rfl ?_
    exact hret (-1 : Int32) vm _ _ h dX7_wish_11
abbrev rmX7_whiten : Room := { frames := 2, cells := 0, slots := 0, locals := 49 }
set_option maxRecDepth 100000 in
set_option maxHeartbeats 4000000 in
theorem mX7_whiten (G : ZG) (a : Nat → Nat) (vm : Mo) (p1 : Int32) (p2 : Int32) (p3 : Int32) (Q : Int32 → Mo → Prop) (h : wpX7_whiten vm p1 p2 p3 Q) : ZMi G yX7_whiten wsX7_whiten rmX7_whiten [.ref (a 0), .int p1, .int p2, .int p3] (w_Mo G a vm) (fun vm : Mo => w_Mo G a vm) (Q) := by
  refine z_ofi (cc := cX7_whiten) (N := 8) (lv := [(0, .ref (a 0)), (1, .int p1), (2, .int p2), (3, .int p3)]) (by decide) rfl (Nat.le_of_ble_eq_true rfl) rfl (fun E F hret => ?_)
  have F : ZF E 8 cX7_whiten RX7 wsX7_whiten rmX7_whiten G := F
  have f0 : ZW E (.fieldLink RX7 41 "ColourEchoModel" "keep" "[I") := F.at 1 rfl
  have iX7 : ∀ x ∈ u_ws RX7 TX7 30, x ∈ wsX7_whiten := fun _ h => List.mem_cons_of_mem _ (List.mem_append_right _ h)
  have t102 : ∀ (K37 : Mo → Int32 → Int32 → Int32 → Int32 → Int32 → Prop) (K69 : Mo → Int32 → Int32 → Int32 → Int32 → Int32 → Int32 → Prop) (ih37 : ∀ (vm : Mo) (x1 : Int32) (x2 : Int32) (x3 : Int32) (x4 : Int32) (x5 : Int32), K37 vm x1 x2 x3 x4 x5 → Z E 8 0 0 (w_Mo G a vm) [(0, .ref (a 0)), (1, .int x1), (2, .int x2), (3, .int x3), (4, .int x4), (5, .int x5)] 37 []) (ih69 : ∀ (vm : Mo) (x1 : Int32) (x2 : Int32) (x3 : Int32) (x4 : Int32) (x5 : Int32) (x6 : Int32), K69 vm x1 x2 x3 x4 x5 x6 → Z E 8 0 0 (w_Mo G a vm) [(0, .ref (a 0)), (1, .int x1), (2, .int x2), (3, .int x3), (4, .int x4), (5, .int x5), (6, .int x6)] 69 []) (vm : Mo) (x1 : Int32) (x2 : Int32) (x3 : Int32) (x4 : Int32) (x5 : Int32) (x6 : Int32) (s1 : Int32) (s2 : Int32), wpX7_whiten_B102 Q K37 K69 vm x1 x2 x3 x4 x5 x6 s1 s2 → Z E 8 0 0 (w_Mo G a vm) [(0, .ref (a 0)), (1, .int x1), (2, .int x2), (3, .int x3), (4, .int x4), (5, .int x5), (6, .int x6)] 102 [.int s2, .int s1, .ref (a 10)] := by
    intro K37 K69 ih37 ih69 vm x1 x2 x3 x4 x5 x6 s1 s2 h
    unfold wpX7_whiten_B102 at h
    have h9 := h.1
    have h := h.2
    refine z_iast (w_Mo G a (Mo_s_keep vm (upd (Mo_keep vm) (s1).toNatClampNeg s2))) F 10 rfl h9 rfl dX7_whiten_102 ?_
    obtain ⟨x6_16, e9⟩ : ∃ z : Int32, z = x6 + 1 := ⟨_, rfl⟩
    have h := h x6_16 e9
    refine z_iinc (v := x6_16) [(6, .int x6_16), (0, .ref (a 0)), (1, .int x1), (2, .int x2), (3, .int x3), (4, .int x4), (5, .int x5)] F dX7_whiten_103 6 rfl (by rw [e9]; rfl) (by decide) rfl ?_
    refine z_goto 69 F dX7_whiten_106 (by decide) ?_
    exact z_lv [1, 2, 3, 4, 5, 6, 0] rfl (ih69 (Mo_s_keep vm (upd (Mo_keep vm) (s1).toNatClampNeg s2)) x1 x2 x3 x4 x5 x6_16 h)
  have t165 : ∀ (K37 : Mo → Int32 → Int32 → Int32 → Int32 → Int32 → Prop) (K115 : Mo → Int32 → Int32 → Int32 → Int32 → Int32 → Int32 → Int32 → Prop) (ih37 : ∀ (vm : Mo) (x1 : Int32) (x2 : Int32) (x3 : Int32) (x4 : Int32) (x5 : Int32), K37 vm x1 x2 x3 x4 x5 → Z E 8 0 0 (w_Mo G a vm) [(0, .ref (a 0)), (1, .int x1), (2, .int x2), (3, .int x3), (4, .int x4), (5, .int x5)] 37 []) (ih115 : ∀ (vm : Mo) (x1 : Int32) (x2 : Int32) (x3 : Int32) (x4 : Int32) (x5 : Int32) (x6 : Int32) (x7 : Int32), K115 vm x1 x2 x3 x4 x5 x6 x7 → Z E 8 0 0 (w_Mo G a vm) [(0, .ref (a 0)), (1, .int x1), (2, .int x2), (3, .int x3), (4, .int x4), (5, .int x5), (6, .int x6), (7, .int x7)] 115 []) (vm : Mo) (x1 : Int32) (x2 : Int32) (x3 : Int32) (x4 : Int32) (x5 : Int32) (x7 : Int32) (s0 : Int32), wpX7_whiten_B165 Q K37 K115 vm x1 x2 x3 x4 x5 x7 s0 → Z E 8 0 0 (w_Mo G a vm) [(0, .ref (a 0)), (1, .int x1), (2, .int x2), (3, .int x3), (4, .int x4), (5, .int x5), (7, .int x7)] 165 [.int s0] := by
    intro K37 K115 ih37 ih115 vm x1 x2 x3 x4 x5 x7 s0 h
    unfold wpX7_whiten_B165 at h
    refine z_istore [(6, .int s0), (0, .ref (a 0)), (1, .int x1), (2, .int x2), (3, .int x3), (4, .int x4), (5, .int x5), (7, .int x7)] F dX7_whiten_165 (by decide) rfl ?_
    refine z_aload_n F dX7_whiten_167 rfl 1 rfl ?_
    refine z_callVv (fun u9 => w_Mo G a u9) F (mX7_pass G a vm _ h) gX7_whiten_X7_pass rfl hdX7_pass ⟨rfl, rfl, Nat.le_of_ble_eq_true rfl, Nat.le_of_ble_eq_true rfl, Nat.le_of_ble_eq_true rfl, Nat.le_of_ble_eq_true rfl⟩ 0 rfl rfl [0, 1, 2, 3, 4, 5, 6, 7, 8, 9, 10, 11, 12, 13, 14, 15, 16] [] [0, 1, 2, 3, 4, 5, 6, 7, 8, 9, 10, 11, 12, 13, 14, 15, 16] rfl rfl (by decide) (fun _ => rfl) rfl (Nat.le_of_ble_eq_true rfl) dX7_whiten_168 (fun vm_17 h => ?_)
    obtain ⟨x7_18, e9⟩ : ∃ z : Int32, z = x7 + 1 := ⟨_, rfl⟩
    have h := h x7_18 e9
    refine z_iinc (v := x7_18) [(7, .int x7_18), (6, .int s0), (0, .ref (a 0)), (1, .int x1), (2, .int x2), (3, .int x3), (4, .int x4), (5, .int x5)] F dX7_whiten_171 7 rfl (by rw [e9]; rfl) (by decide) rfl ?_
    refine z_goto 115 F dX7_whiten_174 (by decide) ?_
    exact z_lv [2, 3, 4, 5, 6, 7, 1, 0] rfl (ih115 vm_17 x1 x2 x3 x4 x5 s0 x7_18 h)
  have t160 : ∀ (K37 : Mo → Int32 → Int32 → Int32 → Int32 → Int32 → Prop) (K115 : Mo → Int32 → Int32 → Int32 → Int32 → Int32 → Int32 → Int32 → Prop) (ih37 : ∀ (vm : Mo) (x1 : Int32) (x2 : Int32) (x3 : Int32) (x4 : Int32) (x5 : Int32), K37 vm x1 x2 x3 x4 x5 → Z E 8 0 0 (w_Mo G a vm) [(0, .ref (a 0)), (1, .int x1), (2, .int x2), (3, .int x3), (4, .int x4), (5, .int x5)] 37 []) (ih115 : ∀ (vm : Mo) (x1 : Int32) (x2 : Int32) (x3 : Int32) (x4 : Int32) (x5 : Int32) (x6 : Int32) (x7 : Int32), K115 vm x1 x2 x3 x4 x5 x6 x7 → Z E 8 0 0 (w_Mo G a vm) [(0, .ref (a 0)), (1, .int x1), (2, .int x2), (3, .int x3), (4, .int x4), (5, .int x5), (6, .int x6), (7, .int x7)] 115 []) (vm : Mo) (x1 : Int32) (x2 : Int32) (x3 : Int32) (x4 : Int32) (x5 : Int32) (x7 : Int32), wpX7_whiten_B160 Q K37 K115 vm x1 x2 x3 x4 x5 x7 → Z E 8 0 0 (w_Mo G a vm) [(0, .ref (a 0)), (1, .int x1), (2, .int x2), (3, .int x3), (4, .int x4), (5, .int x5), (7, .int x7)] 160 [] := by
    intro K37 K115 ih37 ih115 vm x1 x2 x3 x4 x5 x7 h
    unfold wpX7_whiten_B160 at h
    refine z_iconst (v := 1) F dX7_whiten_160 rfl ?_
    refine z_goto 165 F dX7_whiten_161 (by decide) ?_
    exact z_lv [0, 1, 2, 3, 4, 5, 6] rfl (t165 K37 K115 ih37 ih115 vm x1 x2 x3 x4 x5 x7 (1 : Int32) h)
  have t164 : ∀ (K37 : Mo → Int32 → Int32 → Int32 → Int32 → Int32 → Prop) (K115 : Mo → Int32 → Int32 → Int32 → Int32 → Int32 → Int32 → Int32 → Prop) (ih37 : ∀ (vm : Mo) (x1 : Int32) (x2 : Int32) (x3 : Int32) (x4 : Int32) (x5 : Int32), K37 vm x1 x2 x3 x4 x5 → Z E 8 0 0 (w_Mo G a vm) [(0, .ref (a 0)), (1, .int x1), (2, .int x2), (3, .int x3), (4, .int x4), (5, .int x5)] 37 []) (ih115 : ∀ (vm : Mo) (x1 : Int32) (x2 : Int32) (x3 : Int32) (x4 : Int32) (x5 : Int32) (x6 : Int32) (x7 : Int32), K115 vm x1 x2 x3 x4 x5 x6 x7 → Z E 8 0 0 (w_Mo G a vm) [(0, .ref (a 0)), (1, .int x1), (2, .int x2), (3, .int x3), (4, .int x4), (5, .int x5), (6, .int x6), (7, .int x7)] 115 []) (vm : Mo) (x1 : Int32) (x2 : Int32) (x3 : Int32) (x4 : Int32) (x5 : Int32) (x7 : Int32), wpX7_whiten_B164 Q K37 K115 vm x1 x2 x3 x4 x5 x7 → Z E 8 0 0 (w_Mo G a vm) [(0, .ref (a 0)), (1, .int x1), (2, .int x2), (3, .int x3), (4, .int x4), (5, .int x5), (7, .int x7)] 164 [] := by
    intro K37 K115 ih37 ih115 vm x1 x2 x3 x4 x5 x7 h
    unfold wpX7_whiten_B164 at h
    refine z_iconst (v := 0) F dX7_whiten_164 rfl ?_
    exact z_lv [0, 1, 2, 3, 4, 5, 6] rfl (t165 K37 K115 ih37 ih115 vm x1 x2 x3 x4 x5 x7 (0 : Int32) h)
  have t191 : ∀ (K37 : Mo → Int32 → Int32 → Int32 → Int32 → Int32 → Prop) (ih37 : ∀ (vm : Mo) (x1 : Int32) (x2 : Int32) (x3 : Int32) (x4 : Int32) (x5 : Int32), K37 vm x1 x2 x3 x4 x5 → Z E 8 0 0 (w_Mo G a vm) [(0, .ref (a 0)), (1, .int x1), (2, .int x2), (3, .int x3), (4, .int x4), (5, .int x5)] 37 []) (vm : Mo) (x1 : Int32) (x2 : Int32) (x3 : Int32) (x4 : Int32) (x5 : Int32), wpX7_whiten_B191 Q K37 vm x1 x2 x3 x4 x5 → Z E 8 0 0 (w_Mo G a vm) [(0, .ref (a 0)), (1, .int x1), (2, .int x2), (3, .int x3), (4, .int x4), (5, .int x5)] 191 [] := by
    intro K37 ih37 vm x1 x2 x3 x4 x5 h
    unfold wpX7_whiten_B191 at h
    obtain ⟨x5_8, e9⟩ : ∃ z : Int32, z = x5 + 1 := ⟨_, rfl⟩
    have h := h x5_8 e9
    refine z_iinc (v := x5_8) [(5, .int x5_8), (0, .ref (a 0)), (1, .int x1), (2, .int x2), (3, .int x3), (4, .int x4)] F dX7_whiten_191 5 rfl (by rw [e9]; rfl) (by decide) rfl ?_
    refine z_goto 37 F dX7_whiten_194 (by decide) ?_
    exact z_lv [1, 2, 3, 4, 5, 0] rfl (ih37 vm x1 x2 x3 x4 x5_8 h)
  have t189 : ∀ (K37 : Mo → Int32 → Int32 → Int32 → Int32 → Int32 → Prop) (ih37 : ∀ (vm : Mo) (x1 : Int32) (x2 : Int32) (x3 : Int32) (x4 : Int32) (x5 : Int32), K37 vm x1 x2 x3 x4 x5 → Z E 8 0 0 (w_Mo G a vm) [(0, .ref (a 0)), (1, .int x1), (2, .int x2), (3, .int x3), (4, .int x4), (5, .int x5)] 37 []) (vm : Mo) (x1 : Int32) (x2 : Int32) (x3 : Int32) (x5 : Int32) (s0 : Int32), wpX7_whiten_B189 Q K37 vm x1 x2 x3 x5 s0 → Z E 8 0 0 (w_Mo G a vm) [(0, .ref (a 0)), (1, .int x1), (2, .int x2), (3, .int x3), (5, .int x5)] 189 [.int s0] := by
    intro K37 ih37 vm x1 x2 x3 x5 s0 h
    unfold wpX7_whiten_B189 at h
    refine z_istore [(4, .int s0), (0, .ref (a 0)), (1, .int x1), (2, .int x2), (3, .int x3), (5, .int x5)] F dX7_whiten_189 (by decide) rfl ?_
    exact z_lv [1, 2, 3, 4, 0, 5] rfl (t191 K37 ih37 vm x1 x2 x3 s0 x5 h)
  have t115 : ∀ (K37 : Mo → Int32 → Int32 → Int32 → Int32 → Int32 → Prop) (ih37 : ∀ (vm : Mo) (x1 : Int32) (x2 : Int32) (x3 : Int32) (x4 : Int32) (x5 : Int32), K37 vm x1 x2 x3 x4 x5 → Z E 8 0 0 (w_Mo G a vm) [(0, .ref (a 0)), (1, .int x1), (2, .int x2), (3, .int x3), (4, .int x4), (5, .int x5)] 37 []) (n : Nat) (vm : Mo) (x1 : Int32) (x2 : Int32) (x3 : Int32) (x4 : Int32) (x5 : Int32) (x6 : Int32) (x7 : Int32), wpX7_whiten_L115 Q K37 n vm x1 x2 x3 x4 x5 x6 x7 → Z E 8 0 0 (w_Mo G a vm) [(0, .ref (a 0)), (1, .int x1), (2, .int x2), (3, .int x3), (4, .int x4), (5, .int x5), (6, .int x6), (7, .int x7)] 115 [] := by
    intro K37 ih37 n
    induction n with
    | zero => intro vm x1 x2 x3 x4 x5 x6 x7 h; exact h.elim
    | succ n ihQ =>
      have ih115 : ∀ (vm : Mo) (x1 : Int32) (x2 : Int32) (x3 : Int32) (x4 : Int32) (x5 : Int32) (x6 : Int32) (x7 : Int32), wpX7_whiten_L115 Q K37 n vm x1 x2 x3 x4 x5 x6 x7 → Z E 8 0 0 (w_Mo G a vm) [(0, .ref (a 0)), (1, .int x1), (2, .int x2), (3, .int x3), (4, .int x4), (5, .int x5), (6, .int x6), (7, .int x7)] 115 [] := ihQ
      intro vm x1 x2 x3 x4 x5 x6 x7 h
      have h : wpX7_whiten_H115 Q K37 (wpX7_whiten_L115 Q K37 n) vm x1 x2 x3 x4 x5 x6 x7 := h
      generalize wpX7_whiten_L115 Q K37 n = K115 at h ih115
      clear ihQ
      unfold wpX7_whiten_H115 at h
      refine z_iload F dX7_whiten_115 7 rfl ?_
      refine z_bipush (v := 61) F dX7_whiten_117 rfl ?_
      refine z_icmp_ge 177 F dX7_whiten_119 (by decide) (fun c9 => ?_) (fun c9 => ?_)
      · have h := h.1 c9
        refine z_iload F dX7_whiten_177 6 rfl ?_
        refine z_if_eq 187 F dX7_whiten_179 (by decide) (fun c9 => ?_) (fun c9 => ?_)
        · have h := h.1 c9
          refine z_iload F dX7_whiten_187 4 rfl ?_
          exact z_lv [0, 1, 2, 3, 5] rfl (t189 K37 ih37 vm x1 x2 x3 x5 x4 h)
        · have h := h.2 c9
          refine z_iload F dX7_whiten_182 5 rfl ?_
          refine z_goto 189 F dX7_whiten_184 (by decide) ?_
          exact z_lv [0, 1, 2, 3, 5] rfl (t189 K37 ih37 vm x1 x2 x3 x5 x5 h)
      · have h := h.2 c9
        refine z_iload F dX7_whiten_122 6 rfl ?_
        refine z_if_eq 164 F dX7_whiten_124 (by decide) (fun c9 => ?_) (fun c9 => ?_)
        · have h := h.1 c9
          exact z_lv [0, 1, 2, 3, 4, 5, 7] rfl (t164 K37 K115 ih37 ih115 vm x1 x2 x3 x4 x5 x7 h)
        · have h := h.2 c9
          refine z_iload F dX7_whiten_127 7 rfl ?_
          refine z_iload_n F dX7_whiten_129 rfl 1 rfl ?_
          refine z_icmp_lt 160 F dX7_whiten_130 (by decide) (fun c9 => ?_) (fun c9 => ?_)
          · have h := h.1 c9
            exact z_lv [0, 1, 2, 3, 4, 5, 7] rfl (t160 K37 K115 ih37 ih115 vm x1 x2 x3 x4 x5 x7 h)
          · have h := h.2 c9
            refine z_aload_n F dX7_whiten_133 rfl 0 rfl ?_
            refine z_iconst (v := 0) F dX7_whiten_134 rfl ?_
            refine z_callVi (fun u9 => w_Mo G a u9) F (mX7_see G a vm (0 : Int32) _ h) gX7_whiten_X7_see rfl hdX7_see ⟨rfl, rfl, Nat.le_of_ble_eq_true rfl, Nat.le_of_ble_eq_true rfl, Nat.le_of_ble_eq_true rfl, Nat.le_of_ble_eq_true rfl⟩ 0 rfl rfl [0, 1, 2, 3, 4, 5, 6, 7, 8, 9, 10, 11, 12, 13, 14, 15, 16] [] [0, 1, 2, 3, 4, 5, 6, 7, 8, 9, 10, 11, 12, 13, 14, 15, 16] rfl rfl (by decide) (fun _ => rfl) rfl (Nat.le_of_ble_eq_true rfl) dX7_whiten_135 (fun r_10 vm_11 h => ?_)
            refine z_iload_n F dX7_whiten_138 rfl 2 rfl ?_
            refine z_icmp_gt 164 F dX7_whiten_139 (by decide) (fun c9 => ?_) (fun c9 => ?_)
            · have h := h.1 c9
              exact z_lv [0, 1, 2, 3, 4, 5, 7] rfl (t164 K37 K115 ih37 ih115 vm_11 x1 x2 x3 x4 x5 x7 h)
            · have h := h.2 c9
              refine z_aload_n F dX7_whiten_142 rfl 0 rfl ?_
              refine z_iconst (v := 1) F dX7_whiten_143 rfl ?_
              refine z_callVi (fun u9 => w_Mo G a u9) F (mX7_see G a vm_11 (1 : Int32) _ h) gX7_whiten_X7_see rfl hdX7_see ⟨rfl, rfl, Nat.le_of_ble_eq_true rfl, Nat.le_of_ble_eq_true rfl, Nat.le_of_ble_eq_true rfl, Nat.le_of_ble_eq_true rfl⟩ 0 rfl rfl [0, 1, 2, 3, 4, 5, 6, 7, 8, 9, 10, 11, 12, 13, 14, 15, 16] [] [0, 1, 2, 3, 4, 5, 6, 7, 8, 9, 10, 11, 12, 13, 14, 15, 16] rfl rfl (by decide) (fun _ => rfl) rfl (Nat.le_of_ble_eq_true rfl) dX7_whiten_144 (fun r_12 vm_13 h => ?_)
              refine z_iload_n F dX7_whiten_147 rfl 2 rfl ?_
              refine z_icmp_gt 164 F dX7_whiten_148 (by decide) (fun c9 => ?_) (fun c9 => ?_)
              · have h := h.1 c9
                exact z_lv [0, 1, 2, 3, 4, 5, 7] rfl (t164 K37 K115 ih37 ih115 vm_13 x1 x2 x3 x4 x5 x7 h)
              · have h := h.2 c9
                refine z_aload_n F dX7_whiten_151 rfl 0 rfl ?_
                refine z_iconst (v := 2) F dX7_whiten_152 rfl ?_
                refine z_callVi (fun u9 => w_Mo G a u9) F (mX7_see G a vm_13 (2 : Int32) _ h) gX7_whiten_X7_see rfl hdX7_see ⟨rfl, rfl, Nat.le_of_ble_eq_true rfl, Nat.le_of_ble_eq_true rfl, Nat.le_of_ble_eq_true rfl, Nat.le_of_ble_eq_true rfl⟩ 0 rfl rfl [0, 1, 2, 3, 4, 5, 6, 7, 8, 9, 10, 11, 12, 13, 14, 15, 16] [] [0, 1, 2, 3, 4, 5, 6, 7, 8, 9, 10, 11, 12, 13, 14, 15, 16] rfl rfl (by decide) (fun _ => rfl) rfl (Nat.le_of_ble_eq_true rfl) dX7_whiten_153 (fun r_14 vm_15 h => ?_)
                refine z_iload_n F dX7_whiten_156 rfl 2 rfl ?_
                refine z_icmp_gt 164 F dX7_whiten_157 (by decide) (fun c9 => ?_) (fun c9 => ?_)
                · have h := h.1 c9
                  exact z_lv [0, 1, 2, 3, 4, 5, 7] rfl (t164 K37 K115 ih37 ih115 vm_15 x1 x2 x3 x4 x5 x7 h)
                · have h := h.2 c9
                  exact z_lv [0, 1, 2, 3, 4, 5, 7] rfl (t160 K37 K115 ih37 ih115 vm_15 x1 x2 x3 x4 x5 x7 h)
  have t69 : ∀ (K37 : Mo → Int32 → Int32 → Int32 → Int32 → Int32 → Prop) (ih37 : ∀ (vm : Mo) (x1 : Int32) (x2 : Int32) (x3 : Int32) (x4 : Int32) (x5 : Int32), K37 vm x1 x2 x3 x4 x5 → Z E 8 0 0 (w_Mo G a vm) [(0, .ref (a 0)), (1, .int x1), (2, .int x2), (3, .int x3), (4, .int x4), (5, .int x5)] 37 []) (n : Nat) (vm : Mo) (x1 : Int32) (x2 : Int32) (x3 : Int32) (x4 : Int32) (x5 : Int32) (x6 : Int32), wpX7_whiten_L69 Q K37 n vm x1 x2 x3 x4 x5 x6 → Z E 8 0 0 (w_Mo G a vm) [(0, .ref (a 0)), (1, .int x1), (2, .int x2), (3, .int x3), (4, .int x4), (5, .int x5), (6, .int x6)] 69 [] := by
    intro K37 ih37 n
    induction n with
    | zero => intro vm x1 x2 x3 x4 x5 x6 h; exact h.elim
    | succ n ihQ =>
      have ih69 : ∀ (vm : Mo) (x1 : Int32) (x2 : Int32) (x3 : Int32) (x4 : Int32) (x5 : Int32) (x6 : Int32), wpX7_whiten_L69 Q K37 n vm x1 x2 x3 x4 x5 x6 → Z E 8 0 0 (w_Mo G a vm) [(0, .ref (a 0)), (1, .int x1), (2, .int x2), (3, .int x3), (4, .int x4), (5, .int x5), (6, .int x6)] 69 [] := ihQ
      intro vm x1 x2 x3 x4 x5 x6 h
      have h : wpX7_whiten_H69 Q K37 (wpX7_whiten_L69 Q K37 n) vm x1 x2 x3 x4 x5 x6 := h
      generalize wpX7_whiten_L69 Q K37 n = K69 at h ih69
      clear ihQ
      unfold wpX7_whiten_H69 at h
      refine z_iload F dX7_whiten_69 6 rfl ?_
      refine z_iconst (v := 4) F dX7_whiten_71 rfl ?_
      refine z_icmp_ge 109 F dX7_whiten_72 (by decide) (fun c9 => ?_) (fun c9 => ?_)
      · have h := h.1 c9
        refine z_iconst (v := 1) F dX7_whiten_109 rfl ?_
        refine z_istore [(6, .int (1 : Int32)), (0, .ref (a 0)), (1, .int x1), (2, .int x2), (3, .int x3), (4, .int x4), (5, .int x5)] F dX7_whiten_110 (by decide) rfl ?_
        refine z_iconst (v := 0) F dX7_whiten_112 rfl ?_
        refine z_istore [(7, .int (0 : Int32)), (6, .int (1 : Int32)), (0, .ref (a 0)), (1, .int x1), (2, .int x2), (3, .int x3), (4, .int x4), (5, .int x5)] F dX7_whiten_113 (by decide) rfl ?_
        obtain ⟨n9, h⟩ := h
        exact z_lv [2, 3, 4, 5, 6, 7, 1, 0] rfl (t115 K37 ih37 n9 vm x1 x2 x3 x4 x5 (1 : Int32) (0 : Int32) h)
      · have h := h.2 c9
        refine z_aload_n F dX7_whiten_75 rfl 0 rfl ?_
        refine z_get (ci := 7) F iX7 0 rfl rfl 16 (by decide) f0 rfl rfl dX7_whiten_76 ?_
        refine z_iload F dX7_whiten_79 6 rfl ?_
        refine z_iload F dX7_whiten_81 5 rfl ?_
        refine z_iload F dX7_whiten_83 6 rfl ?_
        refine z_callSi (fun _ => w_Mo G a vm) F (mX7_has G x5 x6 _ h) gX7_whiten_X7_has rfl hdX7_has ⟨rfl, rfl, Nat.le_of_ble_eq_true rfl, Nat.le_of_ble_eq_true rfl, Nat.le_of_ble_eq_true rfl, Nat.le_of_ble_eq_true rfl⟩ [] [0, 1, 2, 3, 4, 5, 6, 7, 8, 9, 10, 11, 12, 13, 14, 15, 16] [0, 1, 2, 3, 4, 5, 6, 7, 8, 9, 10, 11, 12, 13, 14, 15, 16] rfl rfl (by decide) (fun _ => rfl) rfl (Nat.le_of_ble_eq_true rfl) dX7_whiten_85 (fun r_9 u9 h => ?_)
        refine z_if_eq 95 F dX7_whiten_88 (by decide) (fun c9 => ?_) (fun c9 => ?_)
        · have h := h.1 c9
          refine z_aload_n F dX7_whiten_95 rfl 0 rfl ?_
          refine z_get (ci := 7) F iX7 0 rfl rfl 16 (by decide) f0 rfl rfl dX7_whiten_96 ?_
          refine z_iload F dX7_whiten_99 6 rfl ?_
          have h9 := h.1
          have h := h.2
          refine z_iald F 10 rfl h9 dX7_whiten_101 ?_
          exact z_lv [0, 1, 2, 3, 4, 5, 6] rfl (t102 K37 K69 ih37 ih69 vm x1 x2 x3 x4 x5 x6 x6 ((Mo_keep vm) (x6).toNatClampNeg) h)
        · have h := h.2 c9
          refine z_iconst (v := 0) F dX7_whiten_91 rfl ?_
          refine z_goto 102 F dX7_whiten_92 (by decide) ?_
          exact z_lv [0, 1, 2, 3, 4, 5, 6] rfl (t102 K37 K69 ih37 ih69 vm x1 x2 x3 x4 x5 x6 x6 (0 : Int32) h)
  have t62 : ∀ (K37 : Mo → Int32 → Int32 → Int32 → Int32 → Int32 → Prop) (ih37 : ∀ (vm : Mo) (x1 : Int32) (x2 : Int32) (x3 : Int32) (x4 : Int32) (x5 : Int32), K37 vm x1 x2 x3 x4 x5 → Z E 8 0 0 (w_Mo G a vm) [(0, .ref (a 0)), (1, .int x1), (2, .int x2), (3, .int x3), (4, .int x4), (5, .int x5)] 37 []) (vm : Mo) (x1 : Int32) (x2 : Int32) (x3 : Int32) (x4 : Int32) (x5 : Int32), wpX7_whiten_B62 Q K37 vm x1 x2 x3 x4 x5 → Z E 8 0 0 (w_Mo G a vm) [(0, .ref (a 0)), (1, .int x1), (2, .int x2), (3, .int x3), (4, .int x4), (5, .int x5)] 62 [] := by
    intro K37 ih37 vm x1 x2 x3 x4 x5 h
    unfold wpX7_whiten_B62 at h
    refine z_aload_n F dX7_whiten_62 rfl 0 rfl ?_
    refine z_callVv (fun u9 => w_Mo G a u9) F (mX7_asNow G a vm _ h) gX7_whiten_X7_asNow rfl hdX7_asNow ⟨rfl, rfl, Nat.le_of_ble_eq_true rfl, Nat.le_of_ble_eq_true rfl, Nat.le_of_ble_eq_true rfl, Nat.le_of_ble_eq_true rfl⟩ 0 rfl rfl [0, 1, 2, 3, 4, 5, 6, 7, 8, 9, 10, 11, 12, 13, 14, 15, 16] [] [0, 1, 2, 3, 4, 5, 6, 7, 8, 9, 10, 11, 12, 13, 14, 15, 16] rfl rfl (by decide) (fun _ => rfl) rfl (Nat.le_of_ble_eq_true rfl) dX7_whiten_63 (fun vm_7 h => ?_)
    refine z_iconst (v := 0) F dX7_whiten_66 rfl ?_
    refine z_istore [(6, .int (0 : Int32)), (0, .ref (a 0)), (1, .int x1), (2, .int x2), (3, .int x3), (4, .int x4), (5, .int x5)] F dX7_whiten_67 (by decide) rfl ?_
    obtain ⟨n9, h⟩ := h
    exact z_lv [1, 2, 3, 4, 5, 6, 0] rfl (t69 K37 ih37 n9 vm_7 x1 x2 x3 x4 x5 (0 : Int32) h)
  have t37 : ∀ (n : Nat) (vm : Mo) (x1 : Int32) (x2 : Int32) (x3 : Int32) (x4 : Int32) (x5 : Int32), wpX7_whiten_L37 Q n vm x1 x2 x3 x4 x5 → Z E 8 0 0 (w_Mo G a vm) [(0, .ref (a 0)), (1, .int x1), (2, .int x2), (3, .int x3), (4, .int x4), (5, .int x5)] 37 [] := by
    intro n
    induction n with
    | zero => intro vm x1 x2 x3 x4 x5 h; exact h.elim
    | succ n ihQ =>
      have ih37 : ∀ (vm : Mo) (x1 : Int32) (x2 : Int32) (x3 : Int32) (x4 : Int32) (x5 : Int32), wpX7_whiten_L37 Q n vm x1 x2 x3 x4 x5 → Z E 8 0 0 (w_Mo G a vm) [(0, .ref (a 0)), (1, .int x1), (2, .int x2), (3, .int x3), (4, .int x4), (5, .int x5)] 37 [] := ihQ
      intro vm x1 x2 x3 x4 x5 h
      have h : wpX7_whiten_H37 Q (wpX7_whiten_L37 Q n) vm x1 x2 x3 x4 x5 := h
      generalize wpX7_whiten_L37 Q n = K37 at h ih37
      clear ihQ
      unfold wpX7_whiten_H37 at h
      refine z_iload F dX7_whiten_37 5 rfl ?_
      refine z_bipush (v := 16) F dX7_whiten_39 rfl ?_
      refine z_icmp_ge 197 F dX7_whiten_41 (by decide) (fun c9 => ?_) (fun c9 => ?_)
      · have h := h.1 c9
        refine z_iload F dX7_whiten_197 4 rfl ?_
        refine z_if_lt 207 F dX7_whiten_199 (by decide) (fun c9 => ?_) (fun c9 => ?_)
        · have h := h.1 c9
          refine z_iload F dX7_whiten_207 4 rfl ?_
          refine z_goto 217 F dX7_whiten_209 (by decide) ?_
          exact hret x4 vm _ _ h dX7_whiten_217
        · have h := h.2 c9
          refine z_iload_n F dX7_whiten_202 rfl 3 rfl ?_
          refine z_iconst (v := 1) F dX7_whiten_203 rfl ?_
          refine z_icmp_ne 212 F dX7_whiten_204 (by decide) (fun c9 => ?_) (fun c9 => ?_)
          · have h := h.1 c9
            refine z_iload F dX7_whiten_212 4 rfl ?_
            refine z_callSi (fun _ => w_Mo G a vm) F (mX7_bits G x4 _ h) gX7_whiten_X7_bits rfl hdX7_bits ⟨rfl, rfl, Nat.le_of_ble_eq_true rfl, Nat.le_of_ble_eq_true rfl, Nat.le_of_ble_eq_true rfl, Nat.le_of_ble_eq_true rfl⟩ [] [0, 1, 2, 3, 4, 5, 6, 7, 8, 9, 10, 11, 12, 13, 14, 15, 16] [0, 1, 2, 3, 4, 5, 6, 7, 8, 9, 10, 11, 12, 13, 14, 15, 16] rfl rfl (by decide) (fun _ => rfl) rfl (Nat.le_of_ble_eq_true rfl) dX7_whiten_214 (fun r_4 u9 h => ?_)
            exact hret r_4 vm _ _ h dX7_whiten_217
          · have h := h.2 c9
            refine z_iload F dX7_whiten_207 4 rfl ?_
            refine z_goto 217 F dX7_whiten_209 (by decide) ?_
            exact hret x4 vm _ _ h dX7_whiten_217
      · have h := h.2 c9
        refine z_iload F dX7_whiten_44 4 rfl ?_
        refine z_if_lt 62 F dX7_whiten_46 (by decide) (fun c9 => ?_) (fun c9 => ?_)
        · have h := h.1 c9
          exact z_lv [0, 1, 2, 3, 4, 5] rfl (t62 K37 ih37 vm x1 x2 x3 x4 x5 h)
        · have h := h.2 c9
          refine z_iload F dX7_whiten_49 5 rfl ?_
          refine z_callSi (fun _ => w_Mo G a vm) F (mX7_bits G x5 _ h) gX7_whiten_X7_bits rfl hdX7_bits ⟨rfl, rfl, Nat.le_of_ble_eq_true rfl, Nat.le_of_ble_eq_true rfl, Nat.le_of_ble_eq_true rfl, Nat.le_of_ble_eq_true rfl⟩ [] [0, 1, 2, 3, 4, 5, 6, 7, 8, 9, 10, 11, 12, 13, 14, 15, 16] [0, 1, 2, 3, 4, 5, 6, 7, 8, 9, 10, 11, 12, 13, 14, 15, 16] rfl rfl (by decide) (fun _ => rfl) rfl (Nat.le_of_ble_eq_true rfl) dX7_whiten_51 (fun r_5 u9 h => ?_)
          refine z_iload F dX7_whiten_54 4 rfl ?_
          refine z_callSi (fun _ => w_Mo G a vm) F (mX7_bits G x4 _ h) gX7_whiten_X7_bits rfl hdX7_bits ⟨rfl, rfl, Nat.le_of_ble_eq_true rfl, Nat.le_of_ble_eq_true rfl, Nat.le_of_ble_eq_true rfl, Nat.le_of_ble_eq_true rfl⟩ [] [0, 1, 2, 3, 4, 5, 6, 7, 8, 9, 10, 11, 12, 13, 14, 15, 16] [0, 1, 2, 3, 4, 5, 6, 7, 8, 9, 10, 11, 12, 13, 14, 15, 16] rfl rfl (by decide) (fun _ => rfl) rfl (Nat.le_of_ble_eq_true rfl) dX7_whiten_56 (fun r_6 u9 h => ?_)
          refine z_icmp_ge 191 F dX7_whiten_59 (by decide) (fun c9 => ?_) (fun c9 => ?_)
          · have h := h.1 c9
            exact z_lv [0, 1, 2, 3, 4, 5] rfl (t191 K37 ih37 vm x1 x2 x3 x4 x5 h)
          · have h := h.2 c9
            exact z_lv [0, 1, 2, 3, 4, 5] rfl (t62 K37 ih37 vm x1 x2 x3 x4 x5 h)
  unfold wpX7_whiten at h
  refine z_iload_n F dX7_whiten_0 rfl 1 rfl ?_
  refine z_callSi (fun _ => w_Mo G a vm) F (mX7_isDay G p1 _ h) gX7_whiten_X7_isDay rfl hdX7_isDay ⟨rfl, rfl, Nat.le_of_ble_eq_true rfl, Nat.le_of_ble_eq_true rfl, Nat.le_of_ble_eq_true rfl, Nat.le_of_ble_eq_true rfl⟩ [] [0, 1, 2, 3, 4, 5, 6, 7, 8, 9, 10, 11, 12, 13, 14, 15, 16] [0, 1, 2, 3, 4, 5, 6, 7, 8, 9, 10, 11, 12, 13, 14, 15, 16] rfl rfl (by decide) (fun _ => rfl) rfl (Nat.le_of_ble_eq_true rfl) dX7_whiten_1 (fun r_1 u9 h => ?_)
  refine z_if_eq 27 F dX7_whiten_4 (by decide) (fun c9 => ?_) (fun c9 => ?_)
  · have h := h.1 c9
    refine z_bipush (v := -2) F dX7_whiten_27 rfl ?_
    exact hret (-2 : Int32) vm _ _ h dX7_whiten_29
  · have h := h.2 c9
    refine z_iload_n F dX7_whiten_7 rfl 2 rfl ?_
    refine z_iconst (v := 0) F dX7_whiten_8 rfl ?_
    refine z_sipush (v := 999) F dX7_whiten_9 rfl ?_
    refine z_callSi (fun _ => w_Mo G a vm) F (mX7_in G p2 (0 : Int32) (999 : Int32) _ h) gX7_whiten_X7_in rfl hdX7_in ⟨rfl, rfl, Nat.le_of_ble_eq_true rfl, Nat.le_of_ble_eq_true rfl, Nat.le_of_ble_eq_true rfl, Nat.le_of_ble_eq_true rfl⟩ [] [0, 1, 2, 3, 4, 5, 6, 7, 8, 9, 10, 11, 12, 13, 14, 15, 16] [0, 1, 2, 3, 4, 5, 6, 7, 8, 9, 10, 11, 12, 13, 14, 15, 16] rfl rfl (by decide) (fun _ => rfl) rfl (Nat.le_of_ble_eq_true rfl) dX7_whiten_12 (fun r_2 u9 h => ?_)
    refine z_if_eq 27 F dX7_whiten_15 (by decide) (fun c9 => ?_) (fun c9 => ?_)
    · have h := h.1 c9
      refine z_bipush (v := -2) F dX7_whiten_27 rfl ?_
      exact hret (-2 : Int32) vm _ _ h dX7_whiten_29
    · have h := h.2 c9
      refine z_iload_n F dX7_whiten_18 rfl 3 rfl ?_
      refine z_iconst (v := 0) F dX7_whiten_19 rfl ?_
      refine z_iconst (v := 1) F dX7_whiten_20 rfl ?_
      refine z_callSi (fun _ => w_Mo G a vm) F (mX7_in G p3 (0 : Int32) (1 : Int32) _ h) gX7_whiten_X7_in rfl hdX7_in ⟨rfl, rfl, Nat.le_of_ble_eq_true rfl, Nat.le_of_ble_eq_true rfl, Nat.le_of_ble_eq_true rfl, Nat.le_of_ble_eq_true rfl⟩ [] [0, 1, 2, 3, 4, 5, 6, 7, 8, 9, 10, 11, 12, 13, 14, 15, 16] [0, 1, 2, 3, 4, 5, 6, 7, 8, 9, 10, 11, 12, 13, 14, 15, 16] rfl rfl (by decide) (fun _ => rfl) rfl (Nat.le_of_ble_eq_true rfl) dX7_whiten_21 (fun r_3 u9 h => ?_)
      refine z_if_ne 30 F dX7_whiten_24 (by decide) (fun c9 => ?_) (fun c9 => ?_)
      · have h := h.1 c9
        refine z_bipush (v := -6) F dX7_whiten_30 rfl ?_
        refine z_istore [(4, .int (-6 : Int32)), (0, .ref (a 0)), (1, .int p1), (2, .int p2), (3, .int p3)] F dX7_whiten_32 (by decide) rfl ?_
        refine z_iconst (v := 0) F dX7_whiten_34 rfl ?_
        refine z_istore [(5, .int (0 : Int32)), (4, .int (-6 : Int32)), (0, .ref (a 0)), (1, .int p1), (2, .int p2), (3, .int p3)] F dX7_whiten_35 (by decide) rfl ?_
        obtain ⟨n9, h⟩ := h
        exact z_lv [2, 3, 4, 5, 1, 0] rfl (t37 n9 vm p1 p2 p3 (-6 : Int32) (0 : Int32) h)
      · have h := h.2 c9
        refine z_bipush (v := -2) F dX7_whiten_27 rfl ?_
        exact hret (-2 : Int32) vm _ _ h dX7_whiten_29
abbrev rmX7_apart : Room := { frames := 3, cells := 0, slots := 0, locals := 71 }
set_option maxRecDepth 100000 in
set_option maxHeartbeats 4000000 in
theorem mX7_apart (G : ZG) (a : Nat → Nat) (vm : Mo) (p1 : Int32) (p2 : Int32) (p3 : Int32) (Q : Int32 → Mo → Prop) (h : wpX7_apart vm p1 p2 p3 Q) : ZMi G yX7_apart wsX7_apart rmX7_apart [.ref (a 0), .int p1, .int p2, .int p3] (w_Mo G a vm) (fun vm : Mo => w_Mo G a vm) (Q) := by
  refine z_ofi (cc := cX7_apart) (N := 9) (lv := [(0, .ref (a 0)), (1, .int p1), (2, .int p2), (3, .int p3)]) (by decide) rfl (Nat.le_of_ble_eq_true rfl) rfl (fun E F hret => ?_)
  have F : ZF E 9 cX7_apart RX7 wsX7_apart rmX7_apart G := F
  have f0 : ZW E (.fieldLink RX7 44 "ColourEchoModel" "echo" "[I") := F.at 1 rfl
  have iX7 : ∀ x ∈ u_ws RX7 TX7 30, x ∈ wsX7_apart := fun _ h => List.mem_cons_of_mem _ (List.mem_append_right _ h)
  have t50 : ∀ (K25 : Mo → Int32 → Int32 → Int32 → Int32 → Prop) (ih25 : ∀ (vm : Mo) (x1 : Int32) (x2 : Int32) (x3 : Int32) (x4 : Int32), K25 vm x1 x2 x3 x4 → Z E 9 0 0 (w_Mo G a vm) [(0, .ref (a 0)), (1, .int x1), (2, .int x2), (3, .int x3), (4, .int x4)] 25 []) (n : Nat) (vm : Mo) (x1 : Int32) (x2 : Int32) (x3 : Int32) (x4 : Int32) (x5 : Int32), wpX7_apart_L50 Q K25 n vm x1 x2 x3 x4 x5 → Z E 9 0 0 (w_Mo G a vm) [(0, .ref (a 0)), (1, .int x1), (2, .int x2), (3, .int x3), (4, .int x4), (5, .int x5)] 50 [] := by
    intro K25 ih25 n
    induction n with
    | zero => intro vm x1 x2 x3 x4 x5 h; exact h.elim
    | succ n ihQ =>
      have ih50 : ∀ (vm : Mo) (x1 : Int32) (x2 : Int32) (x3 : Int32) (x4 : Int32) (x5 : Int32), wpX7_apart_L50 Q K25 n vm x1 x2 x3 x4 x5 → Z E 9 0 0 (w_Mo G a vm) [(0, .ref (a 0)), (1, .int x1), (2, .int x2), (3, .int x3), (4, .int x4), (5, .int x5)] 50 [] := ihQ
      intro vm x1 x2 x3 x4 x5 h
      have h : wpX7_apart_H50 Q K25 (wpX7_apart_L50 Q K25 n) vm x1 x2 x3 x4 x5 := h
      generalize wpX7_apart_L50 Q K25 n = K50 at h ih50
      clear ihQ
      unfold wpX7_apart_H50 at h
      refine z_iload F dX7_apart_50 5 rfl ?_
      refine z_iconst (v := 3) F dX7_apart_52 rfl ?_
      refine z_icmp_ge 80 F dX7_apart_53 (by decide) (fun c9 => ?_) (fun c9 => ?_)
      · have h := h.1 c9
        obtain ⟨x4_7, e9⟩ : ∃ z : Int32, z = x4 + 1 := ⟨_, rfl⟩
        have h := h x4_7 e9
        refine z_iinc (v := x4_7) [(4, .int x4_7), (0, .ref (a 0)), (1, .int x1), (2, .int x2), (3, .int x3), (5, .int x5)] F dX7_apart_80 4 rfl (by rw [e9]; rfl) (by decide) rfl ?_
        refine z_goto 25 F dX7_apart_83 (by decide) ?_
        exact z_lv [1, 2, 3, 4, 0] rfl (ih25 vm x1 x2 x3 x4_7 h)
      · have h := h.2 c9
        refine z_aload_n F dX7_apart_56 rfl 0 rfl ?_
        refine z_get (ci := 7) F iX7 0 rfl rfl 24 (by decide) f0 rfl rfl dX7_apart_57 ?_
        refine z_iconst (v := 3) F dX7_apart_60 rfl ?_
        refine z_iload F dX7_apart_61 4 rfl ?_
        refine z_imul F dX7_apart_63 ?_
        refine z_iload F dX7_apart_64 5 rfl ?_
        refine z_iadd F dX7_apart_66 ?_
        refine z_aload_n F dX7_apart_67 rfl 0 rfl ?_
        refine z_iload F dX7_apart_68 5 rfl ?_
        refine z_callVi (fun u9 => w_Mo G a u9) F (mX7_see G a vm x5 _ h) gX7_apart_X7_see rfl hdX7_see ⟨rfl, rfl, Nat.le_of_ble_eq_true rfl, Nat.le_of_ble_eq_true rfl, Nat.le_of_ble_eq_true rfl, Nat.le_of_ble_eq_true rfl⟩ 0 rfl rfl [0, 1, 2, 3, 4, 5, 6, 7, 8, 9, 10, 11, 12, 13, 14, 15, 16] [] [0, 1, 2, 3, 4, 5, 6, 7, 8, 9, 10, 11, 12, 13, 14, 15, 16] rfl rfl (by decide) (fun _ => rfl) rfl (Nat.le_of_ble_eq_true rfl) dX7_apart_70 (fun r_8 vm_9 h => ?_)
        have h9 := h.1
        have h := h.2
        refine z_iast (w_Mo G a (Mo_s_echo vm_9 (upd (Mo_echo vm_9) ((((3 : Int32) * x4) + x5)).toNatClampNeg r_8))) F 11 rfl h9 rfl dX7_apart_73 ?_
        obtain ⟨x5_10, e9⟩ : ∃ z : Int32, z = x5 + 1 := ⟨_, rfl⟩
        have h := h x5_10 e9
        refine z_iinc (v := x5_10) [(5, .int x5_10), (0, .ref (a 0)), (1, .int x1), (2, .int x2), (3, .int x3), (4, .int x4)] F dX7_apart_74 5 rfl (by rw [e9]; rfl) (by decide) rfl ?_
        refine z_goto 50 F dX7_apart_77 (by decide) ?_
        exact z_lv [1, 2, 3, 4, 5, 0] rfl (ih50 (Mo_s_echo vm_9 (upd (Mo_echo vm_9) ((((3 : Int32) * x4) + x5)).toNatClampNeg r_8)) x1 x2 x3 x4 x5_10 h)
  have t183 : ∀ (K92 : Mo → Int32 → Int32 → Int32 → Int32 → Prop) (K105 : Mo → Int32 → Int32 → Int32 → Int32 → Int32 → Prop) (K140 : Mo → Int32 → Int32 → Int32 → Int32 → Int32 → Int32 → Int32 → Prop) (ih92 : ∀ (vm : Mo) (x1 : Int32) (x3 : Int32) (x4 : Int32) (x5 : Int32), K92 vm x1 x3 x4 x5 → Z E 9 0 0 (w_Mo G a vm) [(0, .ref (a 0)), (1, .int x1), (3, .int x3), (4, .int x4), (5, .int x5)] 92 []) (ih105 : ∀ (vm : Mo) (x1 : Int32) (x3 : Int32) (x4 : Int32) (x5 : Int32) (x6 : Int32), K105 vm x1 x3 x4 x5 x6 → Z E 9 0 0 (w_Mo G a vm) [(0, .ref (a 0)), (1, .int x1), (3, .int x3), (4, .int x4), (5, .int x5), (6, .int x6)] 105 []) (ih140 : ∀ (vm : Mo) (x1 : Int32) (x3 : Int32) (x4 : Int32) (x5 : Int32) (x6 : Int32) (x7 : Int32) (x8 : Int32), K140 vm x1 x3 x4 x5 x6 x7 x8 → Z E 9 0 0 (w_Mo G a vm) [(0, .ref (a 0)), (1, .int x1), (3, .int x3), (4, .int x4), (5, .int x5), (6, .int x6), (7, .int x7), (8, .int x8)] 140 []) (vm : Mo) (x1 : Int32) (x3 : Int32) (x4 : Int32) (x5 : Int32) (x6 : Int32) (x8 : Int32) (s0 : Int32), wpX7_apart_B183 Q K92 K105 K140 vm x1 x3 x4 x5 x6 x8 s0 → Z E 9 0 0 (w_Mo G a vm) [(0, .ref (a 0)), (1, .int x1), (3, .int x3), (4, .int x4), (5, .int x5), (6, .int x6), (8, .int x8)] 183 [.int s0] := by
    intro K92 K105 K140 ih92 ih105 ih140 vm x1 x3 x4 x5 x6 x8 s0 h
    unfold wpX7_apart_B183 at h
    refine z_istore [(7, .int s0), (0, .ref (a 0)), (1, .int x1), (3, .int x3), (4, .int x4), (5, .int x5), (6, .int x6), (8, .int x8)] F dX7_apart_183 (by decide) rfl ?_
    obtain ⟨x8_16, e9⟩ : ∃ z : Int32, z = x8 + 1 := ⟨_, rfl⟩
    have h := h x8_16 e9
    refine z_iinc (v := x8_16) [(8, .int x8_16), (7, .int s0), (0, .ref (a 0)), (1, .int x1), (3, .int x3), (4, .int x4), (5, .int x5), (6, .int x6)] F dX7_apart_185 7 rfl (by rw [e9]; rfl) (by decide) rfl ?_
    refine z_goto 140 F dX7_apart_188 (by decide) ?_
    exact z_lv [2, 3, 4, 5, 6, 7, 1, 0] rfl (ih140 vm x1 x3 x4 x5 x6 s0 x8_16 h)
  have t182 : ∀ (K92 : Mo → Int32 → Int32 → Int32 → Int32 → Prop) (K105 : Mo → Int32 → Int32 → Int32 → Int32 → Int32 → Prop) (K140 : Mo → Int32 → Int32 → Int32 → Int32 → Int32 → Int32 → Int32 → Prop) (ih92 : ∀ (vm : Mo) (x1 : Int32) (x3 : Int32) (x4 : Int32) (x5 : Int32), K92 vm x1 x3 x4 x5 → Z E 9 0 0 (w_Mo G a vm) [(0, .ref (a 0)), (1, .int x1), (3, .int x3), (4, .int x4), (5, .int x5)] 92 []) (ih105 : ∀ (vm : Mo) (x1 : Int32) (x3 : Int32) (x4 : Int32) (x5 : Int32) (x6 : Int32), K105 vm x1 x3 x4 x5 x6 → Z E 9 0 0 (w_Mo G a vm) [(0, .ref (a 0)), (1, .int x1), (3, .int x3), (4, .int x4), (5, .int x5), (6, .int x6)] 105 []) (ih140 : ∀ (vm : Mo) (x1 : Int32) (x3 : Int32) (x4 : Int32) (x5 : Int32) (x6 : Int32) (x7 : Int32) (x8 : Int32), K140 vm x1 x3 x4 x5 x6 x7 x8 → Z E 9 0 0 (w_Mo G a vm) [(0, .ref (a 0)), (1, .int x1), (3, .int x3), (4, .int x4), (5, .int x5), (6, .int x6), (7, .int x7), (8, .int x8)] 140 []) (vm : Mo) (x1 : Int32) (x3 : Int32) (x4 : Int32) (x5 : Int32) (x6 : Int32) (x8 : Int32), wpX7_apart_B182 Q K92 K105 K140 vm x1 x3 x4 x5 x6 x8 → Z E 9 0 0 (w_Mo G a vm) [(0, .ref (a 0)), (1, .int x1), (3, .int x3), (4, .int x4), (5, .int x5), (6, .int x6), (8, .int x8)] 182 [] := by
    intro K92 K105 K140 ih92 ih105 ih140 vm x1 x3 x4 x5 x6 x8 h
    unfold wpX7_apart_B182 at h
    refine z_iconst (v := 0) F dX7_apart_182 rfl ?_
    exact z_lv [0, 1, 2, 3, 4, 5, 6] rfl (t183 K92 K105 K140 ih92 ih105 ih140 vm x1 x3 x4 x5 x6 x8 (0 : Int32) h)
  have t214 : ∀ (K92 : Mo → Int32 → Int32 → Int32 → Int32 → Prop) (K105 : Mo → Int32 → Int32 → Int32 → Int32 → Int32 → Prop) (ih92 : ∀ (vm : Mo) (x1 : Int32) (x3 : Int32) (x4 : Int32) (x5 : Int32), K92 vm x1 x3 x4 x5 → Z E 9 0 0 (w_Mo G a vm) [(0, .ref (a 0)), (1, .int x1), (3, .int x3), (4, .int x4), (5, .int x5)] 92 []) (ih105 : ∀ (vm : Mo) (x1 : Int32) (x3 : Int32) (x4 : Int32) (x5 : Int32) (x6 : Int32), K105 vm x1 x3 x4 x5 x6 → Z E 9 0 0 (w_Mo G a vm) [(0, .ref (a 0)), (1, .int x1), (3, .int x3), (4, .int x4), (5, .int x5), (6, .int x6)] 105 []) (vm : Mo) (x1 : Int32) (x3 : Int32) (x4 : Int32) (x5 : Int32) (x6 : Int32), wpX7_apart_B214 Q K92 K105 vm x1 x3 x4 x5 x6 → Z E 9 0 0 (w_Mo G a vm) [(0, .ref (a 0)), (1, .int x1), (3, .int x3), (4, .int x4), (5, .int x5), (6, .int x6)] 214 [] := by
    intro K92 K105 ih92 ih105 vm x1 x3 x4 x5 x6 h
    unfold wpX7_apart_B214 at h
    obtain ⟨x6_15, e9⟩ : ∃ z : Int32, z = x6 + 1 := ⟨_, rfl⟩
    have h := h x6_15 e9
    refine z_iinc (v := x6_15) [(6, .int x6_15), (0, .ref (a 0)), (1, .int x1), (3, .int x3), (4, .int x4), (5, .int x5)] F dX7_apart_214 5 rfl (by rw [e9]; rfl) (by decide) rfl ?_
    refine z_goto 105 F dX7_apart_217 (by decide) ?_
    exact z_lv [1, 2, 3, 4, 5, 0] rfl (ih105 vm x1 x3 x4 x5 x6_15 h)
  have t140 : ∀ (K92 : Mo → Int32 → Int32 → Int32 → Int32 → Prop) (K105 : Mo → Int32 → Int32 → Int32 → Int32 → Int32 → Prop) (ih92 : ∀ (vm : Mo) (x1 : Int32) (x3 : Int32) (x4 : Int32) (x5 : Int32), K92 vm x1 x3 x4 x5 → Z E 9 0 0 (w_Mo G a vm) [(0, .ref (a 0)), (1, .int x1), (3, .int x3), (4, .int x4), (5, .int x5)] 92 []) (ih105 : ∀ (vm : Mo) (x1 : Int32) (x3 : Int32) (x4 : Int32) (x5 : Int32) (x6 : Int32), K105 vm x1 x3 x4 x5 x6 → Z E 9 0 0 (w_Mo G a vm) [(0, .ref (a 0)), (1, .int x1), (3, .int x3), (4, .int x4), (5, .int x5), (6, .int x6)] 105 []) (n : Nat) (vm : Mo) (x1 : Int32) (x3 : Int32) (x4 : Int32) (x5 : Int32) (x6 : Int32) (x7 : Int32) (x8 : Int32), wpX7_apart_L140 Q K92 K105 n vm x1 x3 x4 x5 x6 x7 x8 → Z E 9 0 0 (w_Mo G a vm) [(0, .ref (a 0)), (1, .int x1), (3, .int x3), (4, .int x4), (5, .int x5), (6, .int x6), (7, .int x7), (8, .int x8)] 140 [] := by
    intro K92 K105 ih92 ih105 n
    induction n with
    | zero => intro vm x1 x3 x4 x5 x6 x7 x8 h; exact h.elim
    | succ n ihQ =>
      have ih140 : ∀ (vm : Mo) (x1 : Int32) (x3 : Int32) (x4 : Int32) (x5 : Int32) (x6 : Int32) (x7 : Int32) (x8 : Int32), wpX7_apart_L140 Q K92 K105 n vm x1 x3 x4 x5 x6 x7 x8 → Z E 9 0 0 (w_Mo G a vm) [(0, .ref (a 0)), (1, .int x1), (3, .int x3), (4, .int x4), (5, .int x5), (6, .int x6), (7, .int x7), (8, .int x8)] 140 [] := ihQ
      intro vm x1 x3 x4 x5 x6 x7 x8 h
      have h : wpX7_apart_H140 Q K92 K105 (wpX7_apart_L140 Q K92 K105 n) vm x1 x3 x4 x5 x6 x7 x8 := h
      generalize wpX7_apart_L140 Q K92 K105 n = K140 at h ih140
      clear ihQ
      unfold wpX7_apart_H140 at h
      refine z_iload F dX7_apart_140 7 rfl ?_
      refine z_iconst (v := 3) F dX7_apart_142 rfl ?_
      refine z_icmp_ge 191 F dX7_apart_143 (by decide) (fun c9 => ?_) (fun c9 => ?_)
      · have h := h.1 c9
        refine z_iload F dX7_apart_191 6 rfl ?_
        refine z_if_eq 214 F dX7_apart_193 (by decide) (fun c9 => ?_) (fun c9 => ?_)
        · have h := h.1 c9
          exact z_lv [0, 1, 2, 3, 4, 5] rfl (t214 K92 K105 ih92 ih105 vm x1 x3 x4 x5 x6 h)
        · have h := h.2 c9
          refine z_iload F dX7_apart_196 3 rfl ?_
          refine z_iload_n F dX7_apart_198 rfl 2 rfl ?_
          refine z_icmp_ne 211 F dX7_apart_199 (by decide) (fun c9 => ?_) (fun c9 => ?_)
          · have h := h.1 c9
            obtain ⟨x4_14, e9⟩ : ∃ z : Int32, z = x4 + 1 := ⟨_, rfl⟩
            have h := h x4_14 e9
            refine z_iinc (v := x4_14) [(4, .int x4_14), (0, .ref (a 0)), (1, .int x1), (3, .int x3), (5, .int x5), (6, .int x6), (7, .int x7), (8, .int x8)] F dX7_apart_211 3 rfl (by rw [e9]; rfl) (by decide) rfl ?_
            exact z_lv [1, 2, 3, 0, 4, 5] rfl (t214 K92 K105 ih92 ih105 vm x1 x3 x4_14 x5 x6 h)
          · have h := h.2 c9
            refine z_bipush (v := 10) F dX7_apart_202 rfl ?_
            refine z_iload F dX7_apart_204 4 rfl ?_
            refine z_imul F dX7_apart_206 ?_
            refine z_iload F dX7_apart_207 5 rfl ?_
            refine z_iadd F dX7_apart_209 ?_
            exact hret (((10 : Int32) * x5) + x6) vm _ _ h dX7_apart_210
      · have h := h.2 c9
        refine z_iload F dX7_apart_146 6 rfl ?_
        refine z_if_eq 182 F dX7_apart_148 (by decide) (fun c9 => ?_) (fun c9 => ?_)
        · have h := h.1 c9
          exact z_lv [0, 1, 2, 3, 4, 5, 7] rfl (t182 K92 K105 K140 ih92 ih105 ih140 vm x1 x3 x4 x5 x6 x8 h)
        · have h := h.2 c9
          refine z_aload_n F dX7_apart_151 rfl 0 rfl ?_
          refine z_get (ci := 7) F iX7 0 rfl rfl 24 (by decide) f0 rfl rfl dX7_apart_152 ?_
          refine z_iconst (v := 3) F dX7_apart_155 rfl ?_
          refine z_iload F dX7_apart_156 4 rfl ?_
          refine z_imul F dX7_apart_158 ?_
          refine z_iload F dX7_apart_159 7 rfl ?_
          refine z_iadd F dX7_apart_161 ?_
          have h9 := h.1
          have h := h.2
          refine z_iald F 11 rfl h9 dX7_apart_162 ?_
          refine z_aload_n F dX7_apart_163 rfl 0 rfl ?_
          refine z_get (ci := 7) F iX7 0 rfl rfl 24 (by decide) f0 rfl rfl dX7_apart_164 ?_
          refine z_iconst (v := 3) F dX7_apart_167 rfl ?_
          refine z_iload F dX7_apart_168 5 rfl ?_
          refine z_imul F dX7_apart_170 ?_
          refine z_iload F dX7_apart_171 7 rfl ?_
          refine z_iadd F dX7_apart_173 ?_
          have h9 := h.1
          have h := h.2
          refine z_iald F 11 rfl h9 dX7_apart_174 ?_
          refine z_icmp_ne 182 F dX7_apart_175 (by decide) (fun c9 => ?_) (fun c9 => ?_)
          · have h := h.1 c9
            exact z_lv [0, 1, 2, 3, 4, 5, 7] rfl (t182 K92 K105 K140 ih92 ih105 ih140 vm x1 x3 x4 x5 x6 x8 h)
          · have h := h.2 c9
            refine z_iconst (v := 1) F dX7_apart_178 rfl ?_
            refine z_goto 183 F dX7_apart_179 (by decide) ?_
            exact z_lv [0, 1, 2, 3, 4, 5, 7] rfl (t183 K92 K105 K140 ih92 ih105 ih140 vm x1 x3 x4 x5 x6 x8 (1 : Int32) h)
  have t135 : ∀ (K92 : Mo → Int32 → Int32 → Int32 → Int32 → Prop) (K105 : Mo → Int32 → Int32 → Int32 → Int32 → Int32 → Prop) (ih92 : ∀ (vm : Mo) (x1 : Int32) (x3 : Int32) (x4 : Int32) (x5 : Int32), K92 vm x1 x3 x4 x5 → Z E 9 0 0 (w_Mo G a vm) [(0, .ref (a 0)), (1, .int x1), (3, .int x3), (4, .int x4), (5, .int x5)] 92 []) (ih105 : ∀ (vm : Mo) (x1 : Int32) (x3 : Int32) (x4 : Int32) (x5 : Int32) (x6 : Int32), K105 vm x1 x3 x4 x5 x6 → Z E 9 0 0 (w_Mo G a vm) [(0, .ref (a 0)), (1, .int x1), (3, .int x3), (4, .int x4), (5, .int x5), (6, .int x6)] 105 []) (vm : Mo) (x1 : Int32) (x3 : Int32) (x4 : Int32) (x5 : Int32) (x6 : Int32) (s0 : Int32), wpX7_apart_B135 Q K92 K105 vm x1 x3 x4 x5 x6 s0 → Z E 9 0 0 (w_Mo G a vm) [(0, .ref (a 0)), (1, .int x1), (3, .int x3), (4, .int x4), (5, .int x5), (6, .int x6)] 135 [.int s0] := by
    intro K92 K105 ih92 ih105 vm x1 x3 x4 x5 x6 s0 h
    unfold wpX7_apart_B135 at h
    refine z_istore [(7, .int s0), (0, .ref (a 0)), (1, .int x1), (3, .int x3), (4, .int x4), (5, .int x5), (6, .int x6)] F dX7_apart_135 (by decide) rfl ?_
    refine z_iconst (v := 0) F dX7_apart_137 rfl ?_
    refine z_istore [(8, .int (0 : Int32)), (7, .int s0), (0, .ref (a 0)), (1, .int x1), (3, .int x3), (4, .int x4), (5, .int x5), (6, .int x6)] F dX7_apart_138 (by decide) rfl ?_
    obtain ⟨n9, h⟩ := h
    exact z_lv [2, 3, 4, 5, 6, 7, 1, 0] rfl (t140 K92 K105 ih92 ih105 n9 vm x1 x3 x4 x5 x6 s0 (0 : Int32) h)
  have t134 : ∀ (K92 : Mo → Int32 → Int32 → Int32 → Int32 → Prop) (K105 : Mo → Int32 → Int32 → Int32 → Int32 → Int32 → Prop) (ih92 : ∀ (vm : Mo) (x1 : Int32) (x3 : Int32) (x4 : Int32) (x5 : Int32), K92 vm x1 x3 x4 x5 → Z E 9 0 0 (w_Mo G a vm) [(0, .ref (a 0)), (1, .int x1), (3, .int x3), (4, .int x4), (5, .int x5)] 92 []) (ih105 : ∀ (vm : Mo) (x1 : Int32) (x3 : Int32) (x4 : Int32) (x5 : Int32) (x6 : Int32), K105 vm x1 x3 x4 x5 x6 → Z E 9 0 0 (w_Mo G a vm) [(0, .ref (a 0)), (1, .int x1), (3, .int x3), (4, .int x4), (5, .int x5), (6, .int x6)] 105 []) (vm : Mo) (x1 : Int32) (x3 : Int32) (x4 : Int32) (x5 : Int32) (x6 : Int32), wpX7_apart_B134 Q K92 K105 vm x1 x3 x4 x5 x6 → Z E 9 0 0 (w_Mo G a vm) [(0, .ref (a 0)), (1, .int x1), (3, .int x3), (4, .int x4), (5, .int x5), (6, .int x6)] 134 [] := by
    intro K92 K105 ih92 ih105 vm x1 x3 x4 x5 x6 h
    unfold wpX7_apart_B134 at h
    refine z_iconst (v := 0) F dX7_apart_134 rfl ?_
    exact z_lv [0, 1, 2, 3, 4, 5] rfl (t135 K92 K105 ih92 ih105 vm x1 x3 x4 x5 x6 (0 : Int32) h)
  have t105 : ∀ (K92 : Mo → Int32 → Int32 → Int32 → Int32 → Prop) (ih92 : ∀ (vm : Mo) (x1 : Int32) (x3 : Int32) (x4 : Int32) (x5 : Int32), K92 vm x1 x3 x4 x5 → Z E 9 0 0 (w_Mo G a vm) [(0, .ref (a 0)), (1, .int x1), (3, .int x3), (4, .int x4), (5, .int x5)] 92 []) (n : Nat) (vm : Mo) (x1 : Int32) (x3 : Int32) (x4 : Int32) (x5 : Int32) (x6 : Int32), wpX7_apart_L105 Q K92 n vm x1 x3 x4 x5 x6 → Z E 9 0 0 (w_Mo G a vm) [(0, .ref (a 0)), (1, .int x1), (3, .int x3), (4, .int x4), (5, .int x5), (6, .int x6)] 105 [] := by
    intro K92 ih92 n
    induction n with
    | zero => intro vm x1 x3 x4 x5 x6 h; exact h.elim
    | succ n ihQ =>
      have ih105 : ∀ (vm : Mo) (x1 : Int32) (x3 : Int32) (x4 : Int32) (x5 : Int32) (x6 : Int32), wpX7_apart_L105 Q K92 n vm x1 x3 x4 x5 x6 → Z E 9 0 0 (w_Mo G a vm) [(0, .ref (a 0)), (1, .int x1), (3, .int x3), (4, .int x4), (5, .int x5), (6, .int x6)] 105 [] := ihQ
      intro vm x1 x3 x4 x5 x6 h
      have h : wpX7_apart_H105 Q K92 (wpX7_apart_L105 Q K92 n) vm x1 x3 x4 x5 x6 := h
      generalize wpX7_apart_L105 Q K92 n = K105 at h ih105
      clear ihQ
      unfold wpX7_apart_H105 at h
      refine z_iload F dX7_apart_105 5 rfl ?_
      refine z_bipush (v := 6) F dX7_apart_107 rfl ?_
      refine z_icmp_ge 220 F dX7_apart_109 (by decide) (fun c9 => ?_) (fun c9 => ?_)
      · have h := h.1 c9
        obtain ⟨x5_11, e9⟩ : ∃ z : Int32, z = x5 + 1 := ⟨_, rfl⟩
        have h := h x5_11 e9
        refine z_iinc (v := x5_11) [(5, .int x5_11), (0, .ref (a 0)), (1, .int x1), (3, .int x3), (4, .int x4), (6, .int x6)] F dX7_apart_220 4 rfl (by rw [e9]; rfl) (by decide) rfl ?_
        refine z_goto 92 F dX7_apart_223 (by decide) ?_
        exact z_lv [1, 2, 3, 4, 0] rfl (ih92 vm x1 x3 x4 x5_11 h)
      · have h := h.2 c9
        refine z_iload_n F dX7_apart_112 rfl 1 rfl ?_
        refine z_iload F dX7_apart_113 4 rfl ?_
        refine z_callSi (fun _ => w_Mo G a vm) F (mX7_has G x1 x5 _ h) gX7_apart_X7_has rfl hdX7_has ⟨rfl, rfl, Nat.le_of_ble_eq_true rfl, Nat.le_of_ble_eq_true rfl, Nat.le_of_ble_eq_true rfl, Nat.le_of_ble_eq_true rfl⟩ [] [0, 1, 2, 3, 4, 5, 6, 7, 8, 9, 10, 11, 12, 13, 14, 15, 16] [0, 1, 2, 3, 4, 5, 6, 7, 8, 9, 10, 11, 12, 13, 14, 15, 16] rfl rfl (by decide) (fun _ => rfl) rfl (Nat.le_of_ble_eq_true rfl) dX7_apart_115 (fun r_12 u9 h => ?_)
        refine z_if_eq 134 F dX7_apart_118 (by decide) (fun c9 => ?_) (fun c9 => ?_)
        · have h := h.1 c9
          exact z_lv [0, 1, 2, 3, 4, 5] rfl (t134 K92 K105 ih92 ih105 vm x1 x3 x4 x5 x6 h)
        · have h := h.2 c9
          refine z_iload_n F dX7_apart_121 rfl 1 rfl ?_
          refine z_iload F dX7_apart_122 5 rfl ?_
          refine z_callSi (fun _ => w_Mo G a vm) F (mX7_has G x1 x6 _ h) gX7_apart_X7_has rfl hdX7_has ⟨rfl, rfl, Nat.le_of_ble_eq_true rfl, Nat.le_of_ble_eq_true rfl, Nat.le_of_ble_eq_true rfl, Nat.le_of_ble_eq_true rfl⟩ [] [0, 1, 2, 3, 4, 5, 6, 7, 8, 9, 10, 11, 12, 13, 14, 15, 16] [0, 1, 2, 3, 4, 5, 6, 7, 8, 9, 10, 11, 12, 13, 14, 15, 16] rfl rfl (by decide) (fun _ => rfl) rfl (Nat.le_of_ble_eq_true rfl) dX7_apart_124 (fun r_13 u9 h => ?_)
          refine z_if_eq 134 F dX7_apart_127 (by decide) (fun c9 => ?_) (fun c9 => ?_)
          · have h := h.1 c9
            exact z_lv [0, 1, 2, 3, 4, 5] rfl (t134 K92 K105 ih92 ih105 vm x1 x3 x4 x5 x6 h)
          · have h := h.2 c9
            refine z_iconst (v := 1) F dX7_apart_130 rfl ?_
            refine z_goto 135 F dX7_apart_131 (by decide) ?_
            exact z_lv [0, 1, 2, 3, 4, 5] rfl (t135 K92 K105 ih92 ih105 vm x1 x3 x4 x5 x6 (1 : Int32) h)
  have t92 : ∀ (n : Nat) (vm : Mo) (x1 : Int32) (x3 : Int32) (x4 : Int32) (x5 : Int32), wpX7_apart_L92 Q n vm x1 x3 x4 x5 → Z E 9 0 0 (w_Mo G a vm) [(0, .ref (a 0)), (1, .int x1), (3, .int x3), (4, .int x4), (5, .int x5)] 92 [] := by
    intro n
    induction n with
    | zero => intro vm x1 x3 x4 x5 h; exact h.elim
    | succ n ihQ =>
      have ih92 : ∀ (vm : Mo) (x1 : Int32) (x3 : Int32) (x4 : Int32) (x5 : Int32), wpX7_apart_L92 Q n vm x1 x3 x4 x5 → Z E 9 0 0 (w_Mo G a vm) [(0, .ref (a 0)), (1, .int x1), (3, .int x3), (4, .int x4), (5, .int x5)] 92 [] := ihQ
      intro vm x1 x3 x4 x5 h
      have h : wpX7_apart_H92 Q (wpX7_apart_L92 Q n) vm x1 x3 x4 x5 := h
      generalize wpX7_apart_L92 Q n = K92 at h ih92
      clear ihQ
      unfold wpX7_apart_H92 at h
      refine z_iload F dX7_apart_92 4 rfl ?_
      refine z_bipush (v := 6) F dX7_apart_94 rfl ?_
      refine z_icmp_ge 226 F dX7_apart_96 (by decide) (fun c9 => ?_) (fun c9 => ?_)
      · have h := h.1 c9
        refine z_iload_n F dX7_apart_226 rfl 2 rfl ?_
        refine z_iconst (v := -1) F dX7_apart_227 rfl ?_
        refine z_icmp_ne 236 F dX7_apart_228 (by decide) (fun c9 => ?_) (fun c9 => ?_)
        · have h := h.1 c9
          refine z_bipush (v := -6) F dX7_apart_236 rfl ?_
          exact hret (-6 : Int32) vm _ _ h dX7_apart_238
        · have h := h.2 c9
          refine z_iload F dX7_apart_231 3 rfl ?_
          refine z_goto 238 F dX7_apart_233 (by decide) ?_
          exact hret x4 vm _ _ h dX7_apart_238
      · have h := h.2 c9
        refine z_iload F dX7_apart_99 4 rfl ?_
        refine z_iconst (v := 1) F dX7_apart_101 rfl ?_
        refine z_iadd F dX7_apart_102 ?_
        refine z_topi (fun x6_6 e9 => ?_)
        have h := h x6_6 e9
        refine z_istore [(6, .int x6_6), (0, .ref (a 0)), (1, .int x1), (3, .int x3), (4, .int x4), (5, .int x5)] F dX7_apart_103 (by decide) rfl ?_
        obtain ⟨n9, h⟩ := h
        exact z_lv [1, 2, 3, 4, 5, 0] rfl (t105 K92 ih92 n9 vm x1 x3 x4 x5 x6_6 h)
  have t25 : ∀ (n : Nat) (vm : Mo) (x1 : Int32) (x2 : Int32) (x3 : Int32) (x4 : Int32), wpX7_apart_L25 Q n vm x1 x2 x3 x4 → Z E 9 0 0 (w_Mo G a vm) [(0, .ref (a 0)), (1, .int x1), (2, .int x2), (3, .int x3), (4, .int x4)] 25 [] := by
    intro n
    induction n with
    | zero => intro vm x1 x2 x3 x4 h; exact h.elim
    | succ n ihQ =>
      have ih25 : ∀ (vm : Mo) (x1 : Int32) (x2 : Int32) (x3 : Int32) (x4 : Int32), wpX7_apart_L25 Q n vm x1 x2 x3 x4 → Z E 9 0 0 (w_Mo G a vm) [(0, .ref (a 0)), (1, .int x1), (2, .int x2), (3, .int x3), (4, .int x4)] 25 [] := ihQ
      intro vm x1 x2 x3 x4 h
      have h : wpX7_apart_H25 Q (wpX7_apart_L25 Q n) vm x1 x2 x3 x4 := h
      generalize wpX7_apart_L25 Q n = K25 at h ih25
      clear ihQ
      unfold wpX7_apart_H25 at h
      refine z_iload F dX7_apart_25 4 rfl ?_
      refine z_bipush (v := 6) F dX7_apart_27 rfl ?_
      refine z_icmp_ge 86 F dX7_apart_29 (by decide) (fun c9 => ?_) (fun c9 => ?_)
      · have h := h.1 c9
        refine z_iconst (v := 0) F dX7_apart_86 rfl ?_
        refine z_istore [(4, .int (0 : Int32)), (0, .ref (a 0)), (1, .int x1), (2, .int x2), (3, .int x3)] F dX7_apart_87 (by decide) rfl ?_
        refine z_iconst (v := 0) F dX7_apart_89 rfl ?_
        refine z_istore [(5, .int (0 : Int32)), (4, .int (0 : Int32)), (0, .ref (a 0)), (1, .int x1), (2, .int x2), (3, .int x3)] F dX7_apart_90 (by decide) rfl ?_
        obtain ⟨n9, h⟩ := h
        exact z_lv [2, 3, 5, 1, 0] rfl (t92 n9 vm x1 x3 (0 : Int32) (0 : Int32) h)
      · have h := h.2 c9
        refine z_aload_n F dX7_apart_32 rfl 0 rfl ?_
        refine z_callVv (fun u9 => w_Mo G a u9) F (mX7_empty G a vm _ h) gX7_apart_X7_empty rfl hdX7_empty ⟨rfl, rfl, Nat.le_of_ble_eq_true rfl, Nat.le_of_ble_eq_true rfl, Nat.le_of_ble_eq_true rfl, Nat.le_of_ble_eq_true rfl⟩ 0 rfl rfl [0, 1, 2, 3, 4, 5, 6, 7, 8, 9, 10, 11, 12, 13, 14, 15, 16] [] [0, 1, 2, 3, 4, 5, 6, 7, 8, 9, 10, 11, 12, 13, 14, 15, 16] rfl rfl (by decide) (fun _ => rfl) rfl (Nat.le_of_ble_eq_true rfl) dX7_apart_33 (fun vm_3 h => ?_)
        refine z_aload_n F dX7_apart_36 rfl 0 rfl ?_
        refine z_iload F dX7_apart_37 4 rfl ?_
        refine z_callVv (fun u9 => w_Mo G a u9) F (mX7_wear G a vm_3 x4 _ h) gX7_apart_X7_wear rfl hdX7_wear ⟨rfl, rfl, Nat.le_of_ble_eq_true rfl, Nat.le_of_ble_eq_true rfl, Nat.le_of_ble_eq_true rfl, Nat.le_of_ble_eq_true rfl⟩ 0 rfl rfl [0, 1, 2, 3, 4, 5, 6, 7, 8, 9, 10, 11, 12, 13, 14, 15, 16] [] [0, 1, 2, 3, 4, 5, 6, 7, 8, 9, 10, 11, 12, 13, 14, 15, 16] rfl rfl (by decide) (fun _ => rfl) rfl (Nat.le_of_ble_eq_true rfl) dX7_apart_39 (fun vm_4 h => ?_)
        refine z_aload_n F dX7_apart_42 rfl 0 rfl ?_
        refine z_iload_n F dX7_apart_43 rfl 2 rfl ?_
        refine z_callVv (fun u9 => w_Mo G a u9) F (mX7_waits G a vm_4 x2 _ h) gX7_apart_X7_waits rfl hdX7_waits ⟨rfl, rfl, Nat.le_of_ble_eq_true rfl, Nat.le_of_ble_eq_true rfl, Nat.le_of_ble_eq_true rfl, Nat.le_of_ble_eq_true rfl⟩ 0 rfl rfl [0, 1, 2, 3, 4, 5, 6, 7, 8, 9, 10, 11, 12, 13, 14, 15, 16] [] [0, 1, 2, 3, 4, 5, 6, 7, 8, 9, 10, 11, 12, 13, 14, 15, 16] rfl rfl (by decide) (fun _ => rfl) rfl (Nat.le_of_ble_eq_true rfl) dX7_apart_44 (fun vm_5 h => ?_)
        refine z_iconst (v := 0) F dX7_apart_47 rfl ?_
        refine z_istore [(5, .int (0 : Int32)), (0, .ref (a 0)), (1, .int x1), (2, .int x2), (3, .int x3), (4, .int x4)] F dX7_apart_48 (by decide) rfl ?_
        obtain ⟨n9, h⟩ := h
        exact z_lv [1, 2, 3, 4, 5, 0] rfl (t50 K25 ih25 n9 vm_5 x1 x2 x3 x4 (0 : Int32) h)
  unfold wpX7_apart at h
  refine z_iload_n F dX7_apart_0 rfl 1 rfl ?_
  refine z_iconst (v := 0) F dX7_apart_1 rfl ?_
  refine z_bipush (v := 63) F dX7_apart_2 rfl ?_
  refine z_callSi (fun _ => w_Mo G a vm) F (mX7_in G p1 (0 : Int32) (63 : Int32) _ h) gX7_apart_X7_in rfl hdX7_in ⟨rfl, rfl, Nat.le_of_ble_eq_true rfl, Nat.le_of_ble_eq_true rfl, Nat.le_of_ble_eq_true rfl, Nat.le_of_ble_eq_true rfl⟩ [] [0, 1, 2, 3, 4, 5, 6, 7, 8, 9, 10, 11, 12, 13, 14, 15, 16] [0, 1, 2, 3, 4, 5, 6, 7, 8, 9, 10, 11, 12, 13, 14, 15, 16] rfl rfl (by decide) (fun _ => rfl) rfl (Nat.le_of_ble_eq_true rfl) dX7_apart_4 (fun r_1 u9 h => ?_)
  refine z_if_ne 12 F dX7_apart_7 (by decide) (fun c9 => ?_) (fun c9 => ?_)
  · have h := h.1 c9
    refine z_iload_n F dX7_apart_12 rfl 2 rfl ?_
    refine z_callSi (fun _ => w_Mo G a vm) F (mX7_isDay G p2 _ h) gX7_apart_X7_isDay rfl hdX7_isDay ⟨rfl, rfl, Nat.le_of_ble_eq_true rfl, Nat.le_of_ble_eq_true rfl, Nat.le_of_ble_eq_true rfl, Nat.le_of_ble_eq_true rfl⟩ [] [0, 1, 2, 3, 4, 5, 6, 7, 8, 9, 10, 11, 12, 13, 14, 15, 16] [0, 1, 2, 3, 4, 5, 6, 7, 8, 9, 10, 11, 12, 13, 14, 15, 16] rfl rfl (by decide) (fun _ => rfl) rfl (Nat.le_of_ble_eq_true rfl) dX7_apart_13 (fun r_2 u9 h => ?_)
    refine z_if_ne 22 F dX7_apart_16 (by decide) (fun c9 => ?_) (fun c9 => ?_)
    · have h := h.1 c9
      refine z_iconst (v := 0) F dX7_apart_22 rfl ?_
      refine z_istore [(4, .int (0 : Int32)), (0, .ref (a 0)), (1, .int p1), (2, .int p2), (3, .int p3)] F dX7_apart_23 (by decide) rfl ?_
      obtain ⟨n9, h⟩ := h
      exact z_lv [1, 2, 3, 4, 0] rfl (t25 n9 vm p1 p2 p3 (0 : Int32) h)
    · have h := h.2 c9
      refine z_bipush (v := -2) F dX7_apart_19 rfl ?_
      exact hret (-2 : Int32) vm _ _ h dX7_apart_21
  · have h := h.2 c9
    refine z_iconst (v := -1) F dX7_apart_10 rfl ?_
    exact hret (-1 : Int32) vm _ _ h dX7_apart_11
abbrev rmX7_allBehind : Room := { frames := 3, cells := 0, slots := 0, locals := 71 }
set_option maxRecDepth 100000 in
set_option maxHeartbeats 4000000 in
theorem mX7_allBehind (G : ZG) (a : Nat → Nat) (vm : Mo) (p1 : Int32) (p2 : Int32) (p3 : Int32) (Q : Int32 → Mo → Prop) (h : wpX7_allBehind vm p1 p2 p3 Q) : ZMi G yX7_allBehind wsX7_allBehind rmX7_allBehind [.ref (a 0), .int p1, .int p2, .int p3] (w_Mo G a vm) (fun vm : Mo => w_Mo G a vm) (Q) := by
  refine z_ofi (cc := cX7_allBehind) (N := 4) (lv := [(0, .ref (a 0)), (1, .int p1), (2, .int p2), (3, .int p3)]) (by decide) rfl (Nat.le_of_ble_eq_true rfl) rfl (fun E F hret => ?_)
  have F : ZF E 4 cX7_allBehind RX7 wsX7_allBehind rmX7_allBehind G := F
  have t18 : ∀ (vm : Mo) (x3 : Int32), wpX7_allBehind_B18 Q vm x3 → Z E 4 0 0 (w_Mo G a vm) [(0, .ref (a 0)), (3, .int x3)] 18 [] := by
    intro vm x3 h
    unfold wpX7_allBehind_B18 at h
    refine z_aload_n F dX7_allBehind_18 rfl 0 rfl ?_
    refine z_iload_n F dX7_allBehind_19 rfl 1 rfl ?_
    refine z_callVv (fun u9 => w_Mo G a u9) F (mX7_waits G a vm x3 _ h) gX7_allBehind_X7_waits rfl hdX7_waits ⟨rfl, rfl, Nat.le_of_ble_eq_true rfl, Nat.le_of_ble_eq_true rfl, Nat.le_of_ble_eq_true rfl, Nat.le_of_ble_eq_true rfl⟩ 0 rfl rfl [0, 1, 2, 3, 4, 5, 6, 7, 8, 9, 10, 11, 12, 13, 14, 15, 16] [] [0, 1, 2, 3, 4, 5, 6, 7, 8, 9, 10, 11, 12, 13, 14, 15, 16] rfl rfl (by decide) (fun _ => rfl) rfl (Nat.le_of_ble_eq_true rfl) dX7_allBehind_20 (fun vm_4 h => ?_)
    refine z_aload_n F dX7_allBehind_23 rfl 0 rfl ?_
    refine z_callVi (fun u9 => w_Mo G a u9) F (mX7_seeAll G a vm_4 _ h) gX7_allBehind_X7_seeAll rfl hdX7_seeAll ⟨rfl, rfl, Nat.le_of_ble_eq_true rfl, Nat.le_of_ble_eq_true rfl, Nat.le_of_ble_eq_true rfl, Nat.le_of_ble_eq_true rfl⟩ 0 rfl rfl [0, 1, 2, 3, 4, 5, 6, 7, 8, 9, 10, 11, 12, 13, 14, 15, 16] [] [0, 1, 2, 3, 4, 5, 6, 7, 8, 9, 10, 11, 12, 13, 14, 15, 16] rfl rfl (by decide) (fun _ => rfl) rfl (Nat.le_of_ble_eq_true rfl) dX7_allBehind_24 (fun r_5 vm_6 h => ?_)
    exact hret r_5 vm_6 _ _ h dX7_allBehind_27
  unfold wpX7_allBehind at h
  refine z_aload_n F dX7_allBehind_0 rfl 0 rfl ?_
  refine z_callVv (fun u9 => w_Mo G a u9) F (mX7_empty G a vm _ h) gX7_allBehind_X7_empty rfl hdX7_empty ⟨rfl, rfl, Nat.le_of_ble_eq_true rfl, Nat.le_of_ble_eq_true rfl, Nat.le_of_ble_eq_true rfl, Nat.le_of_ble_eq_true rfl⟩ 0 rfl rfl [0, 1, 2, 3, 4, 5, 6, 7, 8, 9, 10, 11, 12, 13, 14, 15, 16] [] [0, 1, 2, 3, 4, 5, 6, 7, 8, 9, 10, 11, 12, 13, 14, 15, 16] rfl rfl (by decide) (fun _ => rfl) rfl (Nat.le_of_ble_eq_true rfl) dX7_allBehind_1 (fun vm_1 h => ?_)
  refine z_aload_n F dX7_allBehind_4 rfl 0 rfl ?_
  refine z_iload_n F dX7_allBehind_5 rfl 1 rfl ?_
  refine z_callVv (fun u9 => w_Mo G a u9) F (mX7_wear G a vm_1 p1 _ h) gX7_allBehind_X7_wear rfl hdX7_wear ⟨rfl, rfl, Nat.le_of_ble_eq_true rfl, Nat.le_of_ble_eq_true rfl, Nat.le_of_ble_eq_true rfl, Nat.le_of_ble_eq_true rfl⟩ 0 rfl rfl [0, 1, 2, 3, 4, 5, 6, 7, 8, 9, 10, 11, 12, 13, 14, 15, 16] [] [0, 1, 2, 3, 4, 5, 6, 7, 8, 9, 10, 11, 12, 13, 14, 15, 16] rfl rfl (by decide) (fun _ => rfl) rfl (Nat.le_of_ble_eq_true rfl) dX7_allBehind_6 (fun vm_2 h => ?_)
  refine z_iload_n F dX7_allBehind_9 rfl 2 rfl ?_
  refine z_if_lt 18 F dX7_allBehind_10 (by decide) (fun c9 => ?_) (fun c9 => ?_)
  · have h := h.1 c9
    exact z_lv [0, 3] rfl (t18 vm_2 p3 h)
  · have h := h.2 c9
    refine z_aload_n F dX7_allBehind_13 rfl 0 rfl ?_
    refine z_iload_n F dX7_allBehind_14 rfl 2 rfl ?_
    refine z_callVv (fun u9 => w_Mo G a u9) F (mX7_wear G a vm_2 p2 _ h) gX7_allBehind_X7_wear rfl hdX7_wear ⟨rfl, rfl, Nat.le_of_ble_eq_true rfl, Nat.le_of_ble_eq_true rfl, Nat.le_of_ble_eq_true rfl, Nat.le_of_ble_eq_true rfl⟩ 0 rfl rfl [0, 1, 2, 3, 4, 5, 6, 7, 8, 9, 10, 11, 12, 13, 14, 15, 16] [] [0, 1, 2, 3, 4, 5, 6, 7, 8, 9, 10, 11, 12, 13, 14, 15, 16] rfl rfl (by decide) (fun _ => rfl) rfl (Nat.le_of_ble_eq_true rfl) dX7_allBehind_15 (fun vm_3 h => ?_)
    exact z_lv [0, 3] rfl (t18 vm_3 p3 h)
abbrev rmX7_spoil : Room := { frames := 4, cells := 0, slots := 0, locals := 94 }
set_option maxRecDepth 100000 in
set_option maxHeartbeats 4000000 in
theorem mX7_spoil (G : ZG) (a : Nat → Nat) (vm : Mo) (p1 : Int32) (p2 : Int32) (p3 : Int32) (Q : Int32 → Mo → Prop) (h : wpX7_spoil vm p1 p2 p3 Q) : ZMi G yX7_spoil wsX7_spoil rmX7_spoil [.ref (a 0), .int p1, .int p2, .int p3] (w_Mo G a vm) (fun vm : Mo => w_Mo G a vm) (Q) := by
  refine z_ofi (cc := cX7_spoil) (N := 4) (lv := [(0, .ref (a 0)), (1, .int p1), (2, .int p2), (3, .int p3)]) (by decide) rfl (Nat.le_of_ble_eq_true rfl) rfl (fun E F hret => ?_)
  have F : ZF E 4 cX7_spoil RX7 wsX7_spoil rmX7_spoil G := F
  unfold wpX7_spoil at h
  refine z_iload_n F dX7_spoil_0 rfl 1 rfl ?_
  refine z_iconst (v := 0) F dX7_spoil_1 rfl ?_
  refine z_iconst (v := 5) F dX7_spoil_2 rfl ?_
  refine z_callSi (fun _ => w_Mo G a vm) F (mX7_in G p1 (0 : Int32) (5 : Int32) _ h) gX7_spoil_X7_in rfl hdX7_in ⟨rfl, rfl, Nat.le_of_ble_eq_true rfl, Nat.le_of_ble_eq_true rfl, Nat.le_of_ble_eq_true rfl, Nat.le_of_ble_eq_true rfl⟩ [] [0, 1, 2, 3, 4, 5, 6, 7, 8, 9, 10, 11, 12, 13, 14, 15, 16] [0, 1, 2, 3, 4, 5, 6, 7, 8, 9, 10, 11, 12, 13, 14, 15, 16] rfl rfl (by decide) (fun _ => rfl) rfl (Nat.le_of_ble_eq_true rfl) dX7_spoil_3 (fun r_1 u9 h => ?_)
  refine z_if_eq 23 F dX7_spoil_6 (by decide) (fun c9 => ?_) (fun c9 => ?_)
  · have h := h.1 c9
    refine z_iconst (v := -1) F dX7_spoil_23 rfl ?_
    exact hret (-1 : Int32) vm _ _ h dX7_spoil_24
  · have h := h.2 c9
    refine z_iload_n F dX7_spoil_9 rfl 2 rfl ?_
    refine z_iconst (v := 0) F dX7_spoil_10 rfl ?_
    refine z_iconst (v := 5) F dX7_spoil_11 rfl ?_
    refine z_callSi (fun _ => w_Mo G a vm) F (mX7_in G p2 (0 : Int32) (5 : Int32) _ h) gX7_spoil_X7_in rfl hdX7_in ⟨rfl, rfl, Nat.le_of_ble_eq_true rfl, Nat.le_of_ble_eq_true rfl, Nat.le_of_ble_eq_true rfl, Nat.le_of_ble_eq_true rfl⟩ [] [0, 1, 2, 3, 4, 5, 6, 7, 8, 9, 10, 11, 12, 13, 14, 15, 16] [0, 1, 2, 3, 4, 5, 6, 7, 8, 9, 10, 11, 12, 13, 14, 15, 16] rfl rfl (by decide) (fun _ => rfl) rfl (Nat.le_of_ble_eq_true rfl) dX7_spoil_12 (fun r_2 u9 h => ?_)
    refine z_if_eq 23 F dX7_spoil_15 (by decide) (fun c9 => ?_) (fun c9 => ?_)
    · have h := h.1 c9
      refine z_iconst (v := -1) F dX7_spoil_23 rfl ?_
      exact hret (-1 : Int32) vm _ _ h dX7_spoil_24
    · have h := h.2 c9
      refine z_iload_n F dX7_spoil_18 rfl 1 rfl ?_
      refine z_iload_n F dX7_spoil_19 rfl 2 rfl ?_
      refine z_icmp_ne 25 F dX7_spoil_20 (by decide) (fun c9 => ?_) (fun c9 => ?_)
      · have h := h.1 c9
        refine z_iload_n F dX7_spoil_25 rfl 3 rfl ?_
        refine z_callSi (fun _ => w_Mo G a vm) F (mX7_isDay G p3 _ h) gX7_spoil_X7_isDay rfl hdX7_isDay ⟨rfl, rfl, Nat.le_of_ble_eq_true rfl, Nat.le_of_ble_eq_true rfl, Nat.le_of_ble_eq_true rfl, Nat.le_of_ble_eq_true rfl⟩ [] [0, 1, 2, 3, 4, 5, 6, 7, 8, 9, 10, 11, 12, 13, 14, 15, 16] [0, 1, 2, 3, 4, 5, 6, 7, 8, 9, 10, 11, 12, 13, 14, 15, 16] rfl rfl (by decide) (fun _ => rfl) rfl (Nat.le_of_ble_eq_true rfl) dX7_spoil_26 (fun r_3 u9 h => ?_)
        refine z_if_ne 35 F dX7_spoil_29 (by decide) (fun c9 => ?_) (fun c9 => ?_)
        · have h := h.1 c9
          refine z_aload_n F dX7_spoil_35 rfl 0 rfl ?_
          refine z_iload_n F dX7_spoil_36 rfl 1 rfl ?_
          refine z_iload_n F dX7_spoil_37 rfl 2 rfl ?_
          refine z_iload_n F dX7_spoil_38 rfl 3 rfl ?_
          refine z_callVi (fun u9 => w_Mo G a u9) F (mX7_allBehind G a vm p1 p2 p3 _ h) gX7_spoil_X7_allBehind rfl hdX7_allBehind ⟨rfl, rfl, Nat.le_of_ble_eq_true rfl, Nat.le_of_ble_eq_true rfl, Nat.le_of_ble_eq_true rfl, Nat.le_of_ble_eq_true rfl⟩ 0 rfl rfl [0, 1, 2, 3, 4, 5, 6, 7, 8, 9, 10, 11, 12, 13, 14, 15, 16] [] [0, 1, 2, 3, 4, 5, 6, 7, 8, 9, 10, 11, 12, 13, 14, 15, 16] rfl rfl (by decide) (fun _ => rfl) rfl (Nat.le_of_ble_eq_true rfl) dX7_spoil_39 (fun r_4 vm_5 h => ?_)
          refine z_aload_n F dX7_spoil_42 rfl 0 rfl ?_
          refine z_iload_n F dX7_spoil_43 rfl 1 rfl ?_
          refine z_bipush (v := -6) F dX7_spoil_44 rfl ?_
          refine z_iload_n F dX7_spoil_46 rfl 3 rfl ?_
          refine z_callVi (fun u9 => w_Mo G a u9) F (mX7_allBehind G a vm_5 p1 (-6 : Int32) p3 _ h) gX7_spoil_X7_allBehind rfl hdX7_allBehind ⟨rfl, rfl, Nat.le_of_ble_eq_true rfl, Nat.le_of_ble_eq_true rfl, Nat.le_of_ble_eq_true rfl, Nat.le_of_ble_eq_true rfl⟩ 0 rfl rfl [0, 1, 2, 3, 4, 5, 6, 7, 8, 9, 10, 11, 12, 13, 14, 15, 16] [] [0, 1, 2, 3, 4, 5, 6, 7, 8, 9, 10, 11, 12, 13, 14, 15, 16] rfl rfl (by decide) (fun _ => rfl) rfl (Nat.le_of_ble_eq_true rfl) dX7_spoil_47 (fun r_6 vm_7 h => ?_)
          refine z_isub F dX7_spoil_50 ?_
          refine z_aload_n F dX7_spoil_51 rfl 0 rfl ?_
          refine z_iload_n F dX7_spoil_52 rfl 2 rfl ?_
          refine z_bipush (v := -6) F dX7_spoil_53 rfl ?_
          refine z_iload_n F dX7_spoil_55 rfl 3 rfl ?_
          refine z_callVi (fun u9 => w_Mo G a u9) F (mX7_allBehind G a vm_7 p2 (-6 : Int32) p3 _ h) gX7_spoil_X7_allBehind rfl hdX7_allBehind ⟨rfl, rfl, Nat.le_of_ble_eq_true rfl, Nat.le_of_ble_eq_true rfl, Nat.le_of_ble_eq_true rfl, Nat.le_of_ble_eq_true rfl⟩ 0 rfl rfl [0, 1, 2, 3, 4, 5, 6, 7, 8, 9, 10, 11, 12, 13, 14, 15, 16] [] [0, 1, 2, 3, 4, 5, 6, 7, 8, 9, 10, 11, 12, 13, 14, 15, 16] rfl rfl (by decide) (fun _ => rfl) rfl (Nat.le_of_ble_eq_true rfl) dX7_spoil_56 (fun r_8 vm_9 h => ?_)
          refine z_isub F dX7_spoil_59 ?_
          refine z_sipush (v := 3000) F dX7_spoil_60 rfl ?_
          refine z_iadd F dX7_spoil_63 ?_
          exact hret (((r_4 - r_6) - r_8) + (3000 : Int32)) vm_9 _ _ h dX7_spoil_64
        · have h := h.2 c9
          refine z_bipush (v := -2) F dX7_spoil_32 rfl ?_
          exact hret (-2 : Int32) vm _ _ h dX7_spoil_34
      · have h := h.2 c9
        refine z_iconst (v := -1) F dX7_spoil_23 rfl ?_
        exact hret (-1 : Int32) vm _ _ h dX7_spoil_24
abbrev rmX7_seen : Room := { frames := 2, cells := 0, slots := 0, locals := 42 }
set_option maxRecDepth 100000 in
set_option maxHeartbeats 4000000 in
theorem mX7_seen (G : ZG) (a : Nat → Nat) (vm : Mo) (p1 : Int32) (p2 : Int32) (Q : Int32 → Mo → Prop) (h : wpX7_seen vm p1 p2 Q) : ZMi G yX7_seen wsX7_seen rmX7_seen [.ref (a 0), .int p1, .int p2] (w_Mo G a vm) (fun vm : Mo => w_Mo G a vm) (Q) := by
  refine z_ofi (cc := cX7_seen) (N := 3) (lv := [(0, .ref (a 0)), (1, .int p1), (2, .int p2)]) (by decide) rfl (Nat.le_of_ble_eq_true rfl) rfl (fun E F hret => ?_)
  have F : ZF E 3 cX7_seen RX7 wsX7_seen rmX7_seen G := F
  have f0 : ZW E (.fieldLink RX7 170 "ColourEchoModel" "sights" "I") := F.at 1 rfl
  have f1 : ZW E (.fieldLink RX7 29 "ColourEchoModel" "sight" "[I") := F.at 2 rfl
  have iX7 : ∀ x ∈ u_ws RX7 TX7 30, x ∈ wsX7_seen := fun _ h => List.mem_cons_of_mem _ (List.mem_append_right _ h)
  unfold wpX7_seen at h
  refine z_iload_n F dX7_seen_0 rfl 1 rfl ?_
  refine z_callSi (fun _ => w_Mo G a vm) F (mX7_isDay G p1 _ h) gX7_seen_X7_isDay rfl hdX7_isDay ⟨rfl, rfl, Nat.le_of_ble_eq_true rfl, Nat.le_of_ble_eq_true rfl, Nat.le_of_ble_eq_true rfl, Nat.le_of_ble_eq_true rfl⟩ [] [0, 1, 2, 3, 4, 5, 6, 7, 8, 9, 10, 11, 12, 13, 14, 15, 16] [0, 1, 2, 3, 4, 5, 6, 7, 8, 9, 10, 11, 12, 13, 14, 15, 16] rfl rfl (by decide) (fun _ => rfl) rfl (Nat.le_of_ble_eq_true rfl) dX7_seen_1 (fun r_1 u9 h => ?_)
  refine z_if_eq 18 F dX7_seen_4 (by decide) (fun c9 => ?_) (fun c9 => ?_)
  · have h := h.1 c9
    refine z_bipush (v := -2) F dX7_seen_18 rfl ?_
    exact hret (-2 : Int32) vm _ _ h dX7_seen_20
  · have h := h.2 c9
    refine z_iload_n F dX7_seen_7 rfl 2 rfl ?_
    refine z_iconst (v := 0) F dX7_seen_8 rfl ?_
    refine z_sipush (v := 999) F dX7_seen_9 rfl ?_
    refine z_callSi (fun _ => w_Mo G a vm) F (mX7_in G p2 (0 : Int32) (999 : Int32) _ h) gX7_seen_X7_in rfl hdX7_in ⟨rfl, rfl, Nat.le_of_ble_eq_true rfl, Nat.le_of_ble_eq_true rfl, Nat.le_of_ble_eq_true rfl, Nat.le_of_ble_eq_true rfl⟩ [] [0, 1, 2, 3, 4, 5, 6, 7, 8, 9, 10, 11, 12, 13, 14, 15, 16] [0, 1, 2, 3, 4, 5, 6, 7, 8, 9, 10, 11, 12, 13, 14, 15, 16] rfl rfl (by decide) (fun _ => rfl) rfl (Nat.le_of_ble_eq_true rfl) dX7_seen_12 (fun r_2 u9 h => ?_)
    refine z_if_ne 21 F dX7_seen_15 (by decide) (fun c9 => ?_) (fun c9 => ?_)
    · have h := h.1 c9
      refine z_aload_n F dX7_seen_21 rfl 0 rfl ?_
      refine z_get (ci := 7) F iX7 0 rfl rfl 10 (by decide) f0 rfl rfl dX7_seen_22 ?_
      refine z_bipush (v := 8) F dX7_seen_25 rfl ?_
      refine z_icmp_ne 33 F dX7_seen_27 (by decide) (fun c9 => ?_) (fun c9 => ?_)
      · have h := h.1 c9
        refine z_aload_n F dX7_seen_33 rfl 0 rfl ?_
        refine z_get (ci := 7) F iX7 0 rfl rfl 11 (by decide) f1 rfl rfl dX7_seen_34 ?_
        refine z_iconst (v := 2) F dX7_seen_37 rfl ?_
        refine z_aload_n F dX7_seen_38 rfl 0 rfl ?_
        refine z_get (ci := 7) F iX7 0 rfl rfl 10 (by decide) f0 rfl rfl dX7_seen_39 ?_
        refine z_imul F dX7_seen_42 ?_
        refine z_iload_n F dX7_seen_43 rfl 1 rfl ?_
        have h9 := h.1
        have h := h.2
        refine z_iast (w_Mo G a (Mo_s_sight vm (upd (Mo_sight vm) (((2 : Int32) * (Mo_sights vm))).toNatClampNeg p1))) F 6 rfl h9 rfl dX7_seen_44 ?_
        refine z_aload_n F dX7_seen_45 rfl 0 rfl ?_
        refine z_get (ci := 7) F iX7 0 rfl rfl 11 (by decide) f1 rfl rfl dX7_seen_46 ?_
        refine z_iconst (v := 2) F dX7_seen_49 rfl ?_
        refine z_aload_n F dX7_seen_50 rfl 0 rfl ?_
        refine z_get (ci := 7) (v := .int (Mo_sights vm)) F iX7 0 rfl rfl 10 (by decide) f0 rfl rfl dX7_seen_51 ?_
        refine z_imul F dX7_seen_54 ?_
        refine z_iconst (v := 1) F dX7_seen_55 rfl ?_
        refine z_iadd F dX7_seen_56 ?_
        refine z_iload_n F dX7_seen_57 rfl 2 rfl ?_
        have h9 := h.1
        have h := h.2
        refine z_iast (f := (upd (Mo_sight vm) (((2 : Int32) * (Mo_sights vm))).toNatClampNeg p1)) (w_Mo G a (Mo_s_sight vm (upd (upd (Mo_sight vm) (((2 : Int32) * (Mo_sights vm))).toNatClampNeg p1) ((((2 : Int32) * (Mo_sights vm)) + (1 : Int32))).toNatClampNeg p2))) F 6 rfl h9 rfl dX7_seen_58 ?_
        refine z_aload_n F dX7_seen_59 rfl 0 rfl ?_
        refine z_dup F dX7_seen_60 rfl ?_
        refine z_get (ci := 7) (v := .int (Mo_sights vm)) F iX7 0 rfl rfl 10 (by decide) f0 rfl rfl dX7_seen_61 ?_
        refine z_iconst (v := 1) F dX7_seen_64 rfl ?_
        refine z_iadd F dX7_seen_65 ?_
        refine z_put (ci := 7) (ty := .int) (w_Mo G a (Mo_s_sights (Mo_s_sight vm (upd (upd (Mo_sight vm) (((2 : Int32) * (Mo_sights vm))).toNatClampNeg p1) ((((2 : Int32) * (Mo_sights vm)) + (1 : Int32))).toNatClampNeg p2)) ((Mo_sights vm) + (1 : Int32)))) F iX7 tyX7 tyX7_ok nmX7 0 rfl rfl 10 (by decide) f0 rfl rfl rfl rfl rfl (Nat.le_of_ble_eq_true rfl) rfl dX7_seen_66 ?_
        refine z_aload_n F dX7_seen_69 rfl 0 rfl ?_
        refine z_get (ci := 7) (v := .int ((Mo_sights vm) + (1 : Int32))) F iX7 0 rfl rfl 10 (by decide) f0 rfl rfl dX7_seen_70 ?_
        exact hret ((Mo_sights vm) + (1 : Int32)) (Mo_s_sights (Mo_s_sight vm (upd (upd (Mo_sight vm) (((2 : Int32) * (Mo_sights vm))).toNatClampNeg p1) ((((2 : Int32) * (Mo_sights vm)) + (1 : Int32))).toNatClampNeg p2)) ((Mo_sights vm) + (1 : Int32))) _ _ h dX7_seen_73
      · have h := h.2 c9
        refine z_bipush (v := -4) F dX7_seen_30 rfl ?_
        exact hret (-4 : Int32) vm _ _ h dX7_seen_32
    · have h := h.2 c9
      refine z_bipush (v := -2) F dX7_seen_18 rfl ?_
      exact hret (-2 : Int32) vm _ _ h dX7_seen_20
abbrev rmX7_forget : Room := { frames := 0, cells := 0, slots := 0, locals := 0 }
set_option maxRecDepth 100000 in
set_option maxHeartbeats 4000000 in
theorem mX7_forget (G : ZG) (a : Nat → Nat) (vm : Mo) (Q : Int32 → Mo → Prop) (h : wpX7_forget vm Q) : ZMi G yX7_forget wsX7_forget rmX7_forget [.ref (a 0)] (w_Mo G a vm) (fun vm : Mo => w_Mo G a vm) (Q) := by
  refine z_ofi (cc := cX7_forget) (N := 2) (lv := [(0, .ref (a 0))]) (by decide) rfl (Nat.le_of_ble_eq_true rfl) rfl (fun E F hret => ?_)
  have F : ZF E 2 cX7_forget RX7 wsX7_forget rmX7_forget G := F
  have f0 : ZW E (.fieldLink RX7 170 "ColourEchoModel" "sights" "I") := F.at 1 rfl
  have iX7 : ∀ x ∈ u_ws RX7 TX7 30, x ∈ wsX7_forget := fun _ h => List.mem_cons_of_mem _ (List.mem_append_right _ h)
  unfold wpX7_forget at h
  refine z_aload_n F dX7_forget_0 rfl 0 rfl ?_
  refine z_get (ci := 7) F iX7 0 rfl rfl 10 (by decide) f0 rfl rfl dX7_forget_1 ?_
  refine z_topi (fun x1_1 e9 => ?_)
  have h := h x1_1 e9
  refine z_istore_n [(1, .int x1_1), (0, .ref (a 0))] F dX7_forget_4 rfl (by decide) rfl ?_
  refine z_aload_n F dX7_forget_5 rfl 1 rfl ?_
  refine z_iconst (v := 0) F dX7_forget_6 rfl ?_
  refine z_put (ci := 7) (ty := .int) (w_Mo G a (Mo_s_sights vm (0 : Int32))) F iX7 tyX7 tyX7_ok nmX7 0 rfl rfl 10 (by decide) f0 rfl rfl rfl rfl rfl (Nat.le_of_ble_eq_true rfl) rfl dX7_forget_7 ?_
  refine z_iload_n F dX7_forget_10 rfl 0 rfl ?_
  exact hret x1_1 (Mo_s_sights vm (0 : Int32)) _ _ h dX7_forget_11
abbrev rmX7_layShown : Room := { frames := 2, cells := 0, slots := 0, locals := 49 }
set_option maxRecDepth 100000 in
set_option maxHeartbeats 4000000 in
theorem mX7_layShown (G : ZG) (a : Nat → Nat) (vm : Mo) (Q : Mo → Prop) (h : wpX7_layShown vm Q) : ZMv G yX7_layShown wsX7_layShown rmX7_layShown [.ref (a 0)] (w_Mo G a vm) (fun vm : Mo => w_Mo G a vm) (Q) := by
  refine z_ofv (cc := cX7_layShown) (N := 3) (lv := [(0, .ref (a 0))]) (by decide) rfl (Nat.le_of_ble_eq_true rfl) rfl (fun E F hret => ?_)
  have F : ZF E 3 cX7_layShown RX7 wsX7_layShown rmX7_layShown G := F
  have f0 : ZW E (.fieldLink RX7 35 "ColourEchoModel" "shown" "[I") := F.at 1 rfl
  have f1 : ZW E (.fieldLink RX7 47 "ColourEchoModel" "since" "[I") := F.at 2 rfl
  have iX7 : ∀ x ∈ u_ws RX7 TX7 30, x ∈ wsX7_layShown := fun _ h => List.mem_cons_of_mem _ (List.mem_append_right _ h)
  have t24 : ∀ (K2 : Mo → Int32 → Prop) (ih2 : ∀ (vm : Mo) (x1 : Int32), K2 vm x1 → Z E 3 0 0 (w_Mo G a vm) [(0, .ref (a 0)), (1, .int x1)] 2 []) (n : Nat) (vm : Mo) (x1 : Int32) (x2 : Int32), wpX7_layShown_L24 Q K2 n vm x1 x2 → Z E 3 0 0 (w_Mo G a vm) [(0, .ref (a 0)), (1, .int x1), (2, .int x2)] 24 [] := by
    intro K2 ih2 n
    induction n with
    | zero => intro vm x1 x2 h; exact h.elim
    | succ n ihQ =>
      have ih24 : ∀ (vm : Mo) (x1 : Int32) (x2 : Int32), wpX7_layShown_L24 Q K2 n vm x1 x2 → Z E 3 0 0 (w_Mo G a vm) [(0, .ref (a 0)), (1, .int x1), (2, .int x2)] 24 [] := ihQ
      intro vm x1 x2 h
      have h : wpX7_layShown_H24 Q K2 (wpX7_layShown_L24 Q K2 n) vm x1 x2 := h
      generalize wpX7_layShown_L24 Q K2 n = K24 at h ih24
      clear ihQ
      unfold wpX7_layShown_H24 at h
      refine z_iload_n F dX7_layShown_24 rfl 2 rfl ?_
      refine z_bipush (v := 61) F dX7_layShown_25 rfl ?_
      refine z_icmp_ge 56 F dX7_layShown_27 (by decide) (fun c9 => ?_) (fun c9 => ?_)
      · have h := h.1 c9
        obtain ⟨x1_2, e9⟩ : ∃ z : Int32, z = x1 + 1 := ⟨_, rfl⟩
        have h := h x1_2 e9
        refine z_iinc (v := x1_2) [(1, .int x1_2), (0, .ref (a 0)), (2, .int x2)] F dX7_layShown_56 1 rfl (by rw [e9]; rfl) (by decide) rfl ?_
        refine z_goto 2 F dX7_layShown_59 (by decide) ?_
        exact z_lv [1, 0] rfl (ih2 vm x1_2 h)
      · have h := h.2 c9
        refine z_aload_n F dX7_layShown_30 rfl 0 rfl ?_
        refine z_get (ci := 7) F iX7 0 rfl rfl 25 (by decide) f1 rfl rfl dX7_layShown_31 ?_
        refine z_bipush (v := 61) F dX7_layShown_34 rfl ?_
        refine z_iload_n F dX7_layShown_36 rfl 1 rfl ?_
        refine z_imul F dX7_layShown_37 ?_
        refine z_iload_n F dX7_layShown_38 rfl 2 rfl ?_
        refine z_iadd F dX7_layShown_39 ?_
        refine z_aload_n F dX7_layShown_40 rfl 0 rfl ?_
        refine z_iconst (v := 0) F dX7_layShown_41 rfl ?_
        refine z_callVi (fun u9 => w_Mo G a u9) F (mX7_see G a vm (0 : Int32) _ h) gX7_layShown_X7_see rfl hdX7_see ⟨rfl, rfl, Nat.le_of_ble_eq_true rfl, Nat.le_of_ble_eq_true rfl, Nat.le_of_ble_eq_true rfl, Nat.le_of_ble_eq_true rfl⟩ 0 rfl rfl [0, 1, 2, 3, 4, 5, 6, 7, 8, 9, 10, 11, 12, 13, 14, 15, 16] [] [0, 1, 2, 3, 4, 5, 6, 7, 8, 9, 10, 11, 12, 13, 14, 15, 16] rfl rfl (by decide) (fun _ => rfl) rfl (Nat.le_of_ble_eq_true rfl) dX7_layShown_42 (fun r_3 vm_4 h => ?_)
        have h9 := h.1
        have h := h.2
        refine z_iast (w_Mo G a (Mo_s_since vm_4 (upd (Mo_since vm_4) ((((61 : Int32) * x1) + x2)).toNatClampNeg r_3))) F 12 rfl h9 rfl dX7_layShown_45 ?_
        refine z_aload_n F dX7_layShown_46 rfl 0 rfl ?_
        refine z_callVv (fun u9 => w_Mo G a u9) F (mX7_pass G a (Mo_s_since vm_4 (upd (Mo_since vm_4) ((((61 : Int32) * x1) + x2)).toNatClampNeg r_3)) _ h) gX7_layShown_X7_pass rfl hdX7_pass ⟨rfl, rfl, Nat.le_of_ble_eq_true rfl, Nat.le_of_ble_eq_true rfl, Nat.le_of_ble_eq_true rfl, Nat.le_of_ble_eq_true rfl⟩ 0 rfl rfl [0, 1, 2, 3, 4, 5, 6, 7, 8, 9, 10, 11, 12, 13, 14, 15, 16] [] [0, 1, 2, 3, 4, 5, 6, 7, 8, 9, 10, 11, 12, 13, 14, 15, 16] rfl rfl (by decide) (fun _ => rfl) rfl (Nat.le_of_ble_eq_true rfl) dX7_layShown_47 (fun vm_5 h => ?_)
        obtain ⟨x2_6, e9⟩ : ∃ z : Int32, z = x2 + 1 := ⟨_, rfl⟩
        have h := h x2_6 e9
        refine z_iinc (v := x2_6) [(2, .int x2_6), (0, .ref (a 0)), (1, .int x1)] F dX7_layShown_50 2 rfl (by rw [e9]; rfl) (by decide) rfl ?_
        refine z_goto 24 F dX7_layShown_53 (by decide) ?_
        exact z_lv [1, 2, 0] rfl (ih24 vm_5 x1 x2_6 h)
  have t2 : ∀ (n : Nat) (vm : Mo) (x1 : Int32), wpX7_layShown_L2 Q n vm x1 → Z E 3 0 0 (w_Mo G a vm) [(0, .ref (a 0)), (1, .int x1)] 2 [] := by
    intro n
    induction n with
    | zero => intro vm x1 h; exact h.elim
    | succ n ihQ =>
      have ih2 : ∀ (vm : Mo) (x1 : Int32), wpX7_layShown_L2 Q n vm x1 → Z E 3 0 0 (w_Mo G a vm) [(0, .ref (a 0)), (1, .int x1)] 2 [] := ihQ
      intro vm x1 h
      have h : wpX7_layShown_H2 Q (wpX7_layShown_L2 Q n) vm x1 := h
      generalize wpX7_layShown_L2 Q n = K2 at h ih2
      clear ihQ
      unfold wpX7_layShown_H2 at h
      refine z_iload_n F dX7_layShown_2 rfl 1 rfl ?_
      refine z_bipush (v := 10) F dX7_layShown_3 rfl ?_
      refine z_icmp_ge 62 F dX7_layShown_5 (by decide) (fun c9 => ?_) (fun c9 => ?_)
      · have h := h.1 c9
        exact hret vm _ _ h dX7_layShown_62
      · have h := h.2 c9
        refine z_aload_n F dX7_layShown_8 rfl 0 rfl ?_
        refine z_callVv (fun u9 => w_Mo G a u9) F (mX7_empty G a vm _ h) gX7_layShown_X7_empty rfl hdX7_empty ⟨rfl, rfl, Nat.le_of_ble_eq_true rfl, Nat.le_of_ble_eq_true rfl, Nat.le_of_ble_eq_true rfl, Nat.le_of_ble_eq_true rfl⟩ 0 rfl rfl [0, 1, 2, 3, 4, 5, 6, 7, 8, 9, 10, 11, 12, 13, 14, 15, 16] [] [0, 1, 2, 3, 4, 5, 6, 7, 8, 9, 10, 11, 12, 13, 14, 15, 16] rfl rfl (by decide) (fun _ => rfl) rfl (Nat.le_of_ble_eq_true rfl) dX7_layShown_9 (fun vm_1 h => ?_)
        refine z_aload_n F dX7_layShown_12 rfl 0 rfl ?_
        refine z_get (ci := 7) F iX7 0 rfl rfl 14 (by decide) f0 rfl rfl dX7_layShown_13 ?_
        refine z_iconst (v := 0) F dX7_layShown_16 rfl ?_
        refine z_bipush (v := 10) F dX7_layShown_17 rfl ?_
        refine z_iload_n F dX7_layShown_19 rfl 1 rfl ?_
        refine z_imul F dX7_layShown_20 ?_
        have h9 := h.1
        have h := h.2
        refine z_iast (w_Mo G a (Mo_s_shown vm_1 (upd (Mo_shown vm_1) ((0 : Int32)).toNatClampNeg ((10 : Int32) * x1)))) F 8 rfl h9 rfl dX7_layShown_21 ?_
        refine z_iconst (v := 0) F dX7_layShown_22 rfl ?_
        refine z_istore_n [(2, .int (0 : Int32)), (0, .ref (a 0)), (1, .int x1)] F dX7_layShown_23 rfl (by decide) rfl ?_
        obtain ⟨n9, h⟩ := h
        exact z_lv [1, 2, 0] rfl (t24 K2 ih2 n9 (Mo_s_shown vm_1 (upd (Mo_shown vm_1) ((0 : Int32)).toNatClampNeg ((10 : Int32) * x1))) x1 (0 : Int32) h)
  unfold wpX7_layShown at h
  refine z_iconst (v := 1) F dX7_layShown_0 rfl ?_
  refine z_istore_n [(1, .int (1 : Int32)), (0, .ref (a 0))] F dX7_layShown_1 rfl (by decide) rfl ?_
  obtain ⟨n9, h⟩ := h
  exact z_lv [1, 0] rfl (t2 n9 vm (1 : Int32) h)
abbrev rmX7_seenOn : Room := { frames := 0, cells := 0, slots := 0, locals := 0 }
set_option maxRecDepth 100000 in
set_option maxHeartbeats 4000000 in
theorem mX7_seenOn (G : ZG) (a : Nat → Nat) (vm : Mo) (p1 : Int32) (p2 : Int32) (p3 : Int32) (Q : Int32 → Mo → Prop) (h : wpX7_seenOn vm p1 p2 p3 Q) : ZMi G yX7_seenOn wsX7_seenOn rmX7_seenOn [.ref (a 0), .int p1, .int p2, .int p3] (w_Mo G a vm) (fun vm : Mo => w_Mo G a vm) (Q) := by
  refine z_ofi (cc := cX7_seenOn) (N := 4) (lv := [(0, .ref (a 0)), (1, .int p1), (2, .int p2), (3, .int p3)]) (by decide) rfl (Nat.le_of_ble_eq_true rfl) rfl (fun E F hret => ?_)
  have F : ZF E 4 cX7_seenOn RX7 wsX7_seenOn rmX7_seenOn G := F
  have f0 : ZW E (.fieldLink RX7 47 "ColourEchoModel" "since" "[I") := F.at 1 rfl
  have iX7 : ∀ x ∈ u_ws RX7 TX7 30, x ∈ wsX7_seenOn := fun _ h => List.mem_cons_of_mem _ (List.mem_append_right _ h)
  unfold wpX7_seenOn at h
  refine z_iload_n F dX7_seenOn_0 rfl 3 rfl ?_
  refine z_iload_n F dX7_seenOn_1 rfl 1 rfl ?_
  refine z_icmp_ge 9 F dX7_seenOn_2 (by decide) (fun c9 => ?_) (fun c9 => ?_)
  · have h := h.1 c9
    refine z_aload_n F dX7_seenOn_9 rfl 0 rfl ?_
    refine z_get (ci := 7) F iX7 0 rfl rfl 25 (by decide) f0 rfl rfl dX7_seenOn_10 ?_
    refine z_bipush (v := 61) F dX7_seenOn_13 rfl ?_
    refine z_iload_n F dX7_seenOn_15 rfl 2 rfl ?_
    refine z_imul F dX7_seenOn_16 ?_
    refine z_iload_n F dX7_seenOn_17 rfl 3 rfl ?_
    refine z_iadd F dX7_seenOn_18 ?_
    refine z_iload_n F dX7_seenOn_19 rfl 1 rfl ?_
    refine z_isub F dX7_seenOn_20 ?_
    have h9 := h.1
    have h := h.2
    refine z_iald F 12 rfl h9 dX7_seenOn_21 ?_
    exact hret ((Mo_since vm) (((((61 : Int32) * p2) + p3) - p1)).toNatClampNeg) vm _ _ h dX7_seenOn_22
  · have h := h.2 c9
    refine z_iconst (v := 0) F dX7_seenOn_5 rfl ?_
    refine z_goto 22 F dX7_seenOn_6 (by decide) ?_
    exact hret (0 : Int32) vm _ _ h dX7_seenOn_22
abbrev rmX7_fits : Room := { frames := 1, cells := 0, slots := 0, locals := 23 }
set_option maxRecDepth 100000 in
set_option maxHeartbeats 4000000 in
theorem mX7_fits (G : ZG) (a : Nat → Nat) (vm : Mo) (p1 : Int32) (p2 : Int32) (Q : Int32 → Mo → Prop) (h : wpX7_fits vm p1 p2 Q) : ZMi G yX7_fits wsX7_fits rmX7_fits [.ref (a 0), .int p1, .int p2] (w_Mo G a vm) (fun vm : Mo => w_Mo G a vm) (Q) := by
  refine z_ofz (cc := cX7_fits) (N := 5) (lv := [(0, .ref (a 0)), (1, .int p1), (2, .int p2)]) (by decide) rfl (Nat.le_of_ble_eq_true rfl) rfl (fun E F hret => ?_)
  have F : ZF E 5 cX7_fits RX7 wsX7_fits rmX7_fits G := F
  have f0 : ZW E (.fieldLink RX7 170 "ColourEchoModel" "sights" "I") := F.at 1 rfl
  have f1 : ZW E (.fieldLink RX7 29 "ColourEchoModel" "sight" "[I") := F.at 2 rfl
  have iX7 : ∀ x ∈ u_ws RX7 TX7 30, x ∈ wsX7_fits := fun _ h => List.mem_cons_of_mem _ (List.mem_append_right _ h)
  have t52 : ∀ (K5 : Mo → Int32 → Int32 → Int32 → Int32 → Prop) (ih5 : ∀ (vm : Mo) (x1 : Int32) (x2 : Int32) (x3 : Int32) (x4 : Int32), K5 vm x1 x2 x3 x4 → Z E 5 0 0 (w_Mo G a vm) [(0, .ref (a 0)), (1, .int x1), (2, .int x2), (3, .int x3), (4, .int x4)] 5 []) (vm : Mo) (x1 : Int32) (x2 : Int32) (x4 : Int32) (s0 : Int32), wpX7_fits_B52 Q K5 vm x1 x2 x4 s0 → Z E 5 0 0 (w_Mo G a vm) [(0, .ref (a 0)), (1, .int x1), (2, .int x2), (4, .int x4)] 52 [.int s0] := by
    intro K5 ih5 vm x1 x2 x4 s0 h
    unfold wpX7_fits_B52 at h
    refine z_istore_n [(3, .int s0), (0, .ref (a 0)), (1, .int x1), (2, .int x2), (4, .int x4)] F dX7_fits_52 rfl (by decide) rfl ?_
    obtain ⟨x4_3, e9⟩ : ∃ z : Int32, z = x4 + 1 := ⟨_, rfl⟩
    have h := h x4_3 e9
    refine z_iinc (v := x4_3) [(4, .int x4_3), (3, .int s0), (0, .ref (a 0)), (1, .int x1), (2, .int x2)] F dX7_fits_53 4 rfl (by rw [e9]; rfl) (by decide) rfl ?_
    refine z_goto 5 F dX7_fits_56 (by decide) ?_
    exact z_lv [2, 3, 4, 1, 0] rfl (ih5 vm x1 x2 s0 x4_3 h)
  have t51 : ∀ (K5 : Mo → Int32 → Int32 → Int32 → Int32 → Prop) (ih5 : ∀ (vm : Mo) (x1 : Int32) (x2 : Int32) (x3 : Int32) (x4 : Int32), K5 vm x1 x2 x3 x4 → Z E 5 0 0 (w_Mo G a vm) [(0, .ref (a 0)), (1, .int x1), (2, .int x2), (3, .int x3), (4, .int x4)] 5 []) (vm : Mo) (x1 : Int32) (x2 : Int32) (x4 : Int32), wpX7_fits_B51 Q K5 vm x1 x2 x4 → Z E 5 0 0 (w_Mo G a vm) [(0, .ref (a 0)), (1, .int x1), (2, .int x2), (4, .int x4)] 51 [] := by
    intro K5 ih5 vm x1 x2 x4 h
    unfold wpX7_fits_B51 at h
    refine z_iconst (v := 0) F dX7_fits_51 rfl ?_
    exact z_lv [0, 1, 2, 3] rfl (t52 K5 ih5 vm x1 x2 x4 (0 : Int32) h)
  have t5 : ∀ (n : Nat) (vm : Mo) (x1 : Int32) (x2 : Int32) (x3 : Int32) (x4 : Int32), wpX7_fits_L5 Q n vm x1 x2 x3 x4 → Z E 5 0 0 (w_Mo G a vm) [(0, .ref (a 0)), (1, .int x1), (2, .int x2), (3, .int x3), (4, .int x4)] 5 [] := by
    intro n
    induction n with
    | zero => intro vm x1 x2 x3 x4 h; exact h.elim
    | succ n ihQ =>
      have ih5 : ∀ (vm : Mo) (x1 : Int32) (x2 : Int32) (x3 : Int32) (x4 : Int32), wpX7_fits_L5 Q n vm x1 x2 x3 x4 → Z E 5 0 0 (w_Mo G a vm) [(0, .ref (a 0)), (1, .int x1), (2, .int x2), (3, .int x3), (4, .int x4)] 5 [] := ihQ
      intro vm x1 x2 x3 x4 h
      have h : wpX7_fits_H5 Q (wpX7_fits_L5 Q n) vm x1 x2 x3 x4 := h
      generalize wpX7_fits_L5 Q n = K5 at h ih5
      clear ihQ
      unfold wpX7_fits_H5 at h
      refine z_iload F dX7_fits_5 4 rfl ?_
      refine z_aload_n F dX7_fits_7 rfl 0 rfl ?_
      refine z_get (ci := 7) F iX7 0 rfl rfl 10 (by decide) f0 rfl rfl dX7_fits_8 ?_
      refine z_icmp_ge 59 F dX7_fits_11 (by decide) (fun c9 => ?_) (fun c9 => ?_)
      · have h := h.1 c9
        refine z_iload_n F dX7_fits_59 rfl 3 rfl ?_
        have h9 := h.1
        have h := h.2
        exact hret x3 vm _ _ h dX7_fits_60 (zbz_n h9)
      · have h := h.2 c9
        refine z_iload_n F dX7_fits_14 rfl 3 rfl ?_
        refine z_if_eq 51 F dX7_fits_15 (by decide) (fun c9 => ?_) (fun c9 => ?_)
        · have h := h.1 c9
          exact z_lv [0, 1, 2, 4] rfl (t51 K5 ih5 vm x1 x2 x4 h)
        · have h := h.2 c9
          refine z_aload_n F dX7_fits_18 rfl 0 rfl ?_
          refine z_iload_n F dX7_fits_19 rfl 1 rfl ?_
          refine z_iload_n F dX7_fits_20 rfl 2 rfl ?_
          refine z_aload_n F dX7_fits_21 rfl 0 rfl ?_
          refine z_get (ci := 7) F iX7 0 rfl rfl 11 (by decide) f1 rfl rfl dX7_fits_22 ?_
          refine z_iconst (v := 2) F dX7_fits_25 rfl ?_
          refine z_iload F dX7_fits_26 4 rfl ?_
          refine z_imul F dX7_fits_28 ?_
          have h9 := h.1
          have h := h.2
          refine z_iald F 6 rfl h9 dX7_fits_29 ?_
          refine z_callVi (fun u9 => w_Mo G a u9) F (mX7_seenOn G a vm x1 x2 ((Mo_sight vm) (((2 : Int32) * x4)).toNatClampNeg) _ h) gX7_fits_X7_seenOn rfl hdX7_seenOn ⟨rfl, rfl, Nat.le_of_ble_eq_true rfl, Nat.le_of_ble_eq_true rfl, Nat.le_of_ble_eq_true rfl, Nat.le_of_ble_eq_true rfl⟩ 0 rfl rfl [0, 1, 2, 3, 4, 5, 6, 7, 8, 9, 10, 11, 12, 13, 14, 15, 16] [] [0, 1, 2, 3, 4, 5, 6, 7, 8, 9, 10, 11, 12, 13, 14, 15, 16] rfl rfl (by decide) (fun _ => rfl) rfl (Nat.le_of_ble_eq_true rfl) dX7_fits_30 (fun r_1 vm_2 h => ?_)
          refine z_aload_n F dX7_fits_33 rfl 0 rfl ?_
          refine z_get (ci := 7) F iX7 0 rfl rfl 11 (by decide) f1 rfl rfl dX7_fits_34 ?_
          refine z_iconst (v := 2) F dX7_fits_37 rfl ?_
          refine z_iload F dX7_fits_38 4 rfl ?_
          refine z_imul F dX7_fits_40 ?_
          refine z_iconst (v := 1) F dX7_fits_41 rfl ?_
          refine z_iadd F dX7_fits_42 ?_
          have h9 := h.1
          have h := h.2
          refine z_iald F 6 rfl h9 dX7_fits_43 ?_
          refine z_icmp_ne 51 F dX7_fits_44 (by decide) (fun c9 => ?_) (fun c9 => ?_)
          · have h := h.1 c9
            exact z_lv [0, 1, 2, 4] rfl (t51 K5 ih5 vm_2 x1 x2 x4 h)
          · have h := h.2 c9
            refine z_iconst (v := 1) F dX7_fits_47 rfl ?_
            refine z_goto 52 F dX7_fits_48 (by decide) ?_
            exact z_lv [0, 1, 2, 4] rfl (t52 K5 ih5 vm_2 x1 x2 x4 (1 : Int32) h)
  unfold wpX7_fits at h
  refine z_iconst (v := 1) F dX7_fits_0 rfl ?_
  refine z_istore_n [(3, .int (1 : Int32)), (0, .ref (a 0)), (1, .int p1), (2, .int p2)] F dX7_fits_1 rfl (by decide) rfl ?_
  refine z_iconst (v := 0) F dX7_fits_2 rfl ?_
  refine z_istore [(4, .int (0 : Int32)), (3, .int (1 : Int32)), (0, .ref (a 0)), (1, .int p1), (2, .int p2)] F dX7_fits_3 (by decide) rfl ?_
  obtain ⟨n9, h⟩ := h
  exact z_lv [2, 3, 4, 1, 0] rfl (t5 n9 vm p1 p2 (1 : Int32) (0 : Int32) h)
abbrev rmX7_shown : Room := { frames := 3, cells := 0, slots := 0, locals := 71 }
set_option maxRecDepth 100000 in
set_option maxHeartbeats 4000000 in
theorem mX7_shown (G : ZG) (a : Nat → Nat) (vm : Mo) (p1 : Int32) (Q : Int32 → Mo → Prop) (h : wpX7_shown vm p1 Q) : ZMi G yX7_shown wsX7_shown rmX7_shown [.ref (a 0), .int p1] (w_Mo G a vm) (fun vm : Mo => w_Mo G a vm) (Q) := by
  refine z_ofi (cc := cX7_shown) (N := 5) (lv := [(0, .ref (a 0)), (1, .int p1)]) (by decide) rfl (Nat.le_of_ble_eq_true rfl) rfl (fun E F hret => ?_)
  have F : ZF E 5 cX7_shown RX7 wsX7_shown rmX7_shown G := F
  have t50 : ∀ (K8 : Mo → Int32 → Int32 → Int32 → Prop) (K17 : Mo → Int32 → Int32 → Int32 → Int32 → Prop) (ih8 : ∀ (vm : Mo) (x1 : Int32) (x2 : Int32) (x3 : Int32), K8 vm x1 x2 x3 → Z E 5 0 0 (w_Mo G a vm) [(0, .ref (a 0)), (1, .int x1), (2, .int x2), (3, .int x3)] 8 []) (ih17 : ∀ (vm : Mo) (x1 : Int32) (x2 : Int32) (x3 : Int32) (x4 : Int32), K17 vm x1 x2 x3 x4 → Z E 5 0 0 (w_Mo G a vm) [(0, .ref (a 0)), (1, .int x1), (2, .int x2), (3, .int x3), (4, .int x4)] 17 []) (vm : Mo) (x1 : Int32) (x2 : Int32) (x3 : Int32) (x4 : Int32), wpX7_shown_B50 Q K8 K17 vm x1 x2 x3 x4 → Z E 5 0 0 (w_Mo G a vm) [(0, .ref (a 0)), (1, .int x1), (2, .int x2), (3, .int x3), (4, .int x4)] 50 [] := by
    intro K8 K17 ih8 ih17 vm x1 x2 x3 x4 h
    unfold wpX7_shown_B50 at h
    obtain ⟨x4_6, e9⟩ : ∃ z : Int32, z = x4 + 1 := ⟨_, rfl⟩
    have h := h x4_6 e9
    refine z_iinc (v := x4_6) [(4, .int x4_6), (0, .ref (a 0)), (1, .int x1), (2, .int x2), (3, .int x3)] F dX7_shown_50 4 rfl (by rw [e9]; rfl) (by decide) rfl ?_
    refine z_goto 17 F dX7_shown_53 (by decide) ?_
    exact z_lv [1, 2, 3, 4, 0] rfl (ih17 vm x1 x2 x3 x4_6 h)
  have t17 : ∀ (K8 : Mo → Int32 → Int32 → Int32 → Prop) (ih8 : ∀ (vm : Mo) (x1 : Int32) (x2 : Int32) (x3 : Int32), K8 vm x1 x2 x3 → Z E 5 0 0 (w_Mo G a vm) [(0, .ref (a 0)), (1, .int x1), (2, .int x2), (3, .int x3)] 8 []) (n : Nat) (vm : Mo) (x1 : Int32) (x2 : Int32) (x3 : Int32) (x4 : Int32), wpX7_shown_L17 Q K8 n vm x1 x2 x3 x4 → Z E 5 0 0 (w_Mo G a vm) [(0, .ref (a 0)), (1, .int x1), (2, .int x2), (3, .int x3), (4, .int x4)] 17 [] := by
    intro K8 ih8 n
    induction n with
    | zero => intro vm x1 x2 x3 x4 h; exact h.elim
    | succ n ihQ =>
      have ih17 : ∀ (vm : Mo) (x1 : Int32) (x2 : Int32) (x3 : Int32) (x4 : Int32), wpX7_shown_L17 Q K8 n vm x1 x2 x3 x4 → Z E 5 0 0 (w_Mo G a vm) [(0, .ref (a 0)), (1, .int x1), (2, .int x2), (3, .int x3), (4, .int x4)] 17 [] := ihQ
      intro vm x1 x2 x3 x4 h
      have h : wpX7_shown_H17 Q K8 (wpX7_shown_L17 Q K8 n) vm x1 x2 x3 x4 := h
      generalize wpX7_shown_L17 Q K8 n = K17 at h ih17
      clear ihQ
      unfold wpX7_shown_H17 at h
      refine z_iload F dX7_shown_17 4 rfl ?_
      refine z_bipush (v := 10) F dX7_shown_19 rfl ?_
      refine z_icmp_ge 56 F dX7_shown_21 (by decide) (fun c9 => ?_) (fun c9 => ?_)
      · have h := h.1 c9
        obtain ⟨x3_2, e9⟩ : ∃ z : Int32, z = x3 + 1 := ⟨_, rfl⟩
        have h := h x3_2 e9
        refine z_iinc (v := x3_2) [(3, .int x3_2), (0, .ref (a 0)), (1, .int x1), (2, .int x2), (4, .int x4)] F dX7_shown_56 3 rfl (by rw [e9]; rfl) (by decide) rfl ?_
        refine z_goto 8 F dX7_shown_59 (by decide) ?_
        exact z_lv [1, 2, 3, 0] rfl (ih8 vm x1 x2 x3_2 h)
      · have h := h.2 c9
        refine z_aload_n F dX7_shown_24 rfl 0 rfl ?_
        refine z_iload_n F dX7_shown_25 rfl 3 rfl ?_
        refine z_iload F dX7_shown_26 4 rfl ?_
        refine z_callVi (fun u9 => w_Mo G a u9) F (mX7_fits G a vm x3 x4 _ h) gX7_shown_X7_fits rfl hdX7_fits ⟨rfl, rfl, Nat.le_of_ble_eq_true rfl, Nat.le_of_ble_eq_true rfl, Nat.le_of_ble_eq_true rfl, Nat.le_of_ble_eq_true rfl⟩ 0 rfl rfl [0, 1, 2, 3, 4, 5, 6, 7, 8, 9, 10, 11, 12, 13, 14, 15, 16] [] [0, 1, 2, 3, 4, 5, 6, 7, 8, 9, 10, 11, 12, 13, 14, 15, 16] rfl rfl (by decide) (fun _ => rfl) rfl (Nat.le_of_ble_eq_true rfl) dX7_shown_28 (fun r_3 vm_4 h => ?_)
        refine z_if_eq 50 F dX7_shown_31 (by decide) (fun c9 => ?_) (fun c9 => ?_)
        · have h := h.1 c9
          exact z_lv [0, 1, 2, 3, 4] rfl (t50 K8 K17 ih8 ih17 vm_4 x1 x2 x3 x4 h)
        · have h := h.2 c9
          refine z_iload_n F dX7_shown_34 rfl 2 rfl ?_
          refine z_iload_n F dX7_shown_35 rfl 1 rfl ?_
          refine z_icmp_ne 47 F dX7_shown_36 (by decide) (fun c9 => ?_) (fun c9 => ?_)
          · have h := h.1 c9
            obtain ⟨x2_5, e9⟩ : ∃ z : Int32, z = x2 + 1 := ⟨_, rfl⟩
            have h := h x2_5 e9
            refine z_iinc (v := x2_5) [(2, .int x2_5), (0, .ref (a 0)), (1, .int x1), (3, .int x3), (4, .int x4)] F dX7_shown_47 2 rfl (by rw [e9]; rfl) (by decide) rfl ?_
            exact z_lv [1, 2, 0, 3, 4] rfl (t50 K8 K17 ih8 ih17 vm_4 x1 x2_5 x3 x4 h)
          · have h := h.2 c9
            refine z_bipush (v := 10) F dX7_shown_39 rfl ?_
            refine z_iload_n F dX7_shown_41 rfl 3 rfl ?_
            refine z_imul F dX7_shown_42 ?_
            refine z_iload F dX7_shown_43 4 rfl ?_
            refine z_iadd F dX7_shown_45 ?_
            exact hret (((10 : Int32) * x3) + x4) vm_4 _ _ h dX7_shown_46
  have t8 : ∀ (n : Nat) (vm : Mo) (x1 : Int32) (x2 : Int32) (x3 : Int32), wpX7_shown_L8 Q n vm x1 x2 x3 → Z E 5 0 0 (w_Mo G a vm) [(0, .ref (a 0)), (1, .int x1), (2, .int x2), (3, .int x3)] 8 [] := by
    intro n
    induction n with
    | zero => intro vm x1 x2 x3 h; exact h.elim
    | succ n ihQ =>
      have ih8 : ∀ (vm : Mo) (x1 : Int32) (x2 : Int32) (x3 : Int32), wpX7_shown_L8 Q n vm x1 x2 x3 → Z E 5 0 0 (w_Mo G a vm) [(0, .ref (a 0)), (1, .int x1), (2, .int x2), (3, .int x3)] 8 [] := ihQ
      intro vm x1 x2 x3 h
      have h : wpX7_shown_H8 Q (wpX7_shown_L8 Q n) vm x1 x2 x3 := h
      generalize wpX7_shown_L8 Q n = K8 at h ih8
      clear ihQ
      unfold wpX7_shown_H8 at h
      refine z_iload_n F dX7_shown_8 rfl 3 rfl ?_
      refine z_bipush (v := 10) F dX7_shown_9 rfl ?_
      refine z_icmp_ge 62 F dX7_shown_11 (by decide) (fun c9 => ?_) (fun c9 => ?_)
      · have h := h.1 c9
        refine z_iload_n F dX7_shown_62 rfl 1 rfl ?_
        refine z_iconst (v := -1) F dX7_shown_63 rfl ?_
        refine z_icmp_ne 71 F dX7_shown_64 (by decide) (fun c9 => ?_) (fun c9 => ?_)
        · have h := h.1 c9
          refine z_bipush (v := -6) F dX7_shown_71 rfl ?_
          exact hret (-6 : Int32) vm _ _ h dX7_shown_73
        · have h := h.2 c9
          refine z_iload_n F dX7_shown_67 rfl 2 rfl ?_
          refine z_goto 73 F dX7_shown_68 (by decide) ?_
          exact hret x2 vm _ _ h dX7_shown_73
      · have h := h.2 c9
        refine z_iconst (v := 1) F dX7_shown_14 rfl ?_
        refine z_istore [(4, .int (1 : Int32)), (0, .ref (a 0)), (1, .int x1), (2, .int x2), (3, .int x3)] F dX7_shown_15 (by decide) rfl ?_
        obtain ⟨n9, h⟩ := h
        exact z_lv [1, 2, 3, 4, 0] rfl (t17 K8 ih8 n9 vm x1 x2 x3 (1 : Int32) h)
  unfold wpX7_shown at h
  refine z_aload_n F dX7_shown_0 rfl 0 rfl ?_
  refine z_callVv (fun u9 => w_Mo G a u9) F (mX7_layShown G a vm _ h) gX7_shown_X7_layShown rfl hdX7_layShown ⟨rfl, rfl, Nat.le_of_ble_eq_true rfl, Nat.le_of_ble_eq_true rfl, Nat.le_of_ble_eq_true rfl, Nat.le_of_ble_eq_true rfl⟩ 0 rfl rfl [0, 1, 2, 3, 4, 5, 6, 7, 8, 9, 10, 11, 12, 13, 14, 15, 16] [] [0, 1, 2, 3, 4, 5, 6, 7, 8, 9, 10, 11, 12, 13, 14, 15, 16] rfl rfl (by decide) (fun _ => rfl) rfl (Nat.le_of_ble_eq_true rfl) dX7_shown_1 (fun vm_1 h => ?_)
  refine z_iconst (v := 0) F dX7_shown_4 rfl ?_
  refine z_istore_n [(2, .int (0 : Int32)), (0, .ref (a 0)), (1, .int p1)] F dX7_shown_5 rfl (by decide) rfl ?_
  refine z_iconst (v := 0) F dX7_shown_6 rfl ?_
  refine z_istore_n [(3, .int (0 : Int32)), (2, .int (0 : Int32)), (0, .ref (a 0)), (1, .int p1)] F dX7_shown_7 rfl (by decide) rfl ?_
  obtain ⟨n9, h⟩ := h
  exact z_lv [2, 3, 1, 0] rfl (t8 n9 vm_1 p1 (0 : Int32) (0 : Int32) h)
abbrev rmX7_look : Room := { frames := 3, cells := 0, slots := 0, locals := 71 }
set_option maxRecDepth 100000 in
set_option maxHeartbeats 4000000 in
theorem mX7_look (G : ZG) (a : Nat → Nat) (vm : Mo) (p1 : Int32) (Q : Int32 → Mo → Prop) (h : wpX7_look vm p1 Q) : ZMi G yX7_look wsX7_look rmX7_look [.ref (a 0), .int p1] (w_Mo G a vm) (fun vm : Mo => w_Mo G a vm) (Q) := by
  refine z_ofi (cc := cX7_look) (N := 8) (lv := [(0, .ref (a 0)), (1, .int p1)]) (by decide) rfl (Nat.le_of_ble_eq_true rfl) rfl (fun E F hret => ?_)
  have F : ZF E 8 cX7_look RX7 wsX7_look rmX7_look G := F
  have f0 : ZW E (.constant RX7 155 (1000000)) := F.at 1 rfl
  have f1 : ZW E (.fieldLink RX7 50 "ColourEchoModel" "counts" "[I") := F.at 2 rfl
  have iX7 : ∀ x ∈ u_ws RX7 TX7 30, x ∈ wsX7_look := fun _ h => List.mem_cons_of_mem _ (List.mem_append_right _ h)
  have t150 : ∀ (K25 : Mo → Int32 → Int32 → Int32 → Int32 → Prop) (K63 : Mo → Int32 → Int32 → Int32 → Int32 → Int32 → Int32 → Prop) (ih25 : ∀ (vm : Mo) (x1 : Int32) (x2 : Int32) (x3 : Int32) (x4 : Int32), K25 vm x1 x2 x3 x4 → Z E 8 0 0 (w_Mo G a vm) [(0, .ref (a 0)), (1, .int x1), (2, .int x2), (3, .int x3), (4, .int x4)] 25 []) (ih63 : ∀ (vm : Mo) (x1 : Int32) (x2 : Int32) (x3 : Int32) (x4 : Int32) (x5 : Int32) (x6 : Int32), K63 vm x1 x2 x3 x4 x5 x6 → Z E 8 0 0 (w_Mo G a vm) [(0, .ref (a 0)), (1, .int x1), (2, .int x2), (3, .int x3), (4, .int x4), (5, .int x5), (6, .int x6)] 63 []) (vm : Mo) (x1 : Int32) (x2 : Int32) (x3 : Int32) (x4 : Int32) (x5 : Int32) (x6 : Int32), wpX7_look_B150 Q K25 K63 vm x1 x2 x3 x4 x5 x6 → Z E 8 0 0 (w_Mo G a vm) [(0, .ref (a 0)), (1, .int x1), (2, .int x2), (3, .int x3), (4, .int x4), (5, .int x5), (6, .int x6)] 150 [] := by
    intro K25 K63 ih25 ih63 vm x1 x2 x3 x4 x5 x6 h
    unfold wpX7_look_B150 at h
    obtain ⟨x6_8, e9⟩ : ∃ z : Int32, z = x6 + 1 := ⟨_, rfl⟩
    have h := h x6_8 e9
    refine z_iinc (v := x6_8) [(6, .int x6_8), (0, .ref (a 0)), (1, .int x1), (2, .int x2), (3, .int x3), (4, .int x4), (5, .int x5)] F dX7_look_150 6 rfl (by rw [e9]; rfl) (by decide) rfl ?_
    refine z_goto 63 F dX7_look_153 (by decide) ?_
    exact z_lv [1, 2, 3, 4, 5, 6, 0] rfl (ih63 vm x1 x2 x3 x4 x5 x6_8 h)
  have t148 : ∀ (K25 : Mo → Int32 → Int32 → Int32 → Int32 → Prop) (K63 : Mo → Int32 → Int32 → Int32 → Int32 → Int32 → Int32 → Prop) (ih25 : ∀ (vm : Mo) (x1 : Int32) (x2 : Int32) (x3 : Int32) (x4 : Int32), K25 vm x1 x2 x3 x4 → Z E 8 0 0 (w_Mo G a vm) [(0, .ref (a 0)), (1, .int x1), (2, .int x2), (3, .int x3), (4, .int x4)] 25 []) (ih63 : ∀ (vm : Mo) (x1 : Int32) (x2 : Int32) (x3 : Int32) (x4 : Int32) (x5 : Int32) (x6 : Int32), K63 vm x1 x2 x3 x4 x5 x6 → Z E 8 0 0 (w_Mo G a vm) [(0, .ref (a 0)), (1, .int x1), (2, .int x2), (3, .int x3), (4, .int x4), (5, .int x5), (6, .int x6)] 63 []) (vm : Mo) (x1 : Int32) (x2 : Int32) (x3 : Int32) (x4 : Int32) (x6 : Int32) (s0 : Int32), wpX7_look_B148 Q K25 K63 vm x1 x2 x3 x4 x6 s0 → Z E 8 0 0 (w_Mo G a vm) [(0, .ref (a 0)), (1, .int x1), (2, .int x2), (3, .int x3), (4, .int x4), (6, .int x6)] 148 [.int s0] := by
    intro K25 K63 ih25 ih63 vm x1 x2 x3 x4 x6 s0 h
    unfold wpX7_look_B148 at h
    refine z_istore [(5, .int s0), (0, .ref (a 0)), (1, .int x1), (2, .int x2), (3, .int x3), (4, .int x4), (6, .int x6)] F dX7_look_148 (by decide) rfl ?_
    exact z_lv [1, 2, 3, 4, 5, 0, 6] rfl (t150 K25 K63 ih25 ih63 vm x1 x2 x3 x4 s0 x6 h)
  have t197 : ∀ (K25 : Mo → Int32 → Int32 → Int32 → Int32 → Prop) (ih25 : ∀ (vm : Mo) (x1 : Int32) (x2 : Int32) (x3 : Int32) (x4 : Int32), K25 vm x1 x2 x3 x4 → Z E 8 0 0 (w_Mo G a vm) [(0, .ref (a 0)), (1, .int x1), (2, .int x2), (3, .int x3), (4, .int x4)] 25 []) (vm : Mo) (x1 : Int32) (x2 : Int32) (x4 : Int32) (s0 : Int32), wpX7_look_B197 Q K25 vm x1 x2 x4 s0 → Z E 8 0 0 (w_Mo G a vm) [(0, .ref (a 0)), (1, .int x1), (2, .int x2), (4, .int x4)] 197 [.int s0] := by
    intro K25 ih25 vm x1 x2 x4 s0 h
    unfold wpX7_look_B197 at h
    refine z_istore_n [(3, .int s0), (0, .ref (a 0)), (1, .int x1), (2, .int x2), (4, .int x4)] F dX7_look_197 rfl (by decide) rfl ?_
    obtain ⟨x4_9, e9⟩ : ∃ z : Int32, z = x4 + 1 := ⟨_, rfl⟩
    have h := h x4_9 e9
    refine z_iinc (v := x4_9) [(4, .int x4_9), (3, .int s0), (0, .ref (a 0)), (1, .int x1), (2, .int x2)] F dX7_look_198 4 rfl (by rw [e9]; rfl) (by decide) rfl ?_
    refine z_goto 25 F dX7_look_201 (by decide) ?_
    exact z_lv [2, 3, 4, 1, 0] rfl (ih25 vm x1 x2 s0 x4_9 h)
  have t185 : ∀ (K25 : Mo → Int32 → Int32 → Int32 → Int32 → Prop) (ih25 : ∀ (vm : Mo) (x1 : Int32) (x2 : Int32) (x3 : Int32) (x4 : Int32), K25 vm x1 x2 x3 x4 → Z E 8 0 0 (w_Mo G a vm) [(0, .ref (a 0)), (1, .int x1), (2, .int x2), (3, .int x3), (4, .int x4)] 25 []) (vm : Mo) (x1 : Int32) (x3 : Int32) (x4 : Int32) (x5 : Int32) (x6 : Int32) (s0 : Int32), wpX7_look_B185 Q K25 vm x1 x3 x4 x5 x6 s0 → Z E 8 0 0 (w_Mo G a vm) [(0, .ref (a 0)), (1, .int x1), (3, .int x3), (4, .int x4), (5, .int x5), (6, .int x6)] 185 [.int s0] := by
    intro K25 ih25 vm x1 x3 x4 x5 x6 s0 h
    unfold wpX7_look_B185 at h
    refine z_istore_n [(2, .int s0), (0, .ref (a 0)), (1, .int x1), (3, .int x3), (4, .int x4), (5, .int x5), (6, .int x6)] F dX7_look_185 rfl (by decide) rfl ?_
    refine z_iload F dX7_look_186 6 rfl ?_
    refine z_if_eq 196 F dX7_look_188 (by decide) (fun c9 => ?_) (fun c9 => ?_)
    · have h := h.1 c9
      refine z_iload_n F dX7_look_196 rfl 3 rfl ?_
      exact z_lv [1, 2, 0, 4] rfl (t197 K25 ih25 vm x1 s0 x4 x3 h)
    · have h := h.2 c9
      refine z_iload F dX7_look_191 5 rfl ?_
      refine z_goto 197 F dX7_look_193 (by decide) ?_
      exact z_lv [1, 2, 0, 4] rfl (t197 K25 ih25 vm x1 s0 x4 x5 h)
  have t172 : ∀ (K25 : Mo → Int32 → Int32 → Int32 → Int32 → Prop) (ih25 : ∀ (vm : Mo) (x1 : Int32) (x2 : Int32) (x3 : Int32) (x4 : Int32), K25 vm x1 x2 x3 x4 → Z E 8 0 0 (w_Mo G a vm) [(0, .ref (a 0)), (1, .int x1), (2, .int x2), (3, .int x3), (4, .int x4)] 25 []) (vm : Mo) (x1 : Int32) (x2 : Int32) (x3 : Int32) (x4 : Int32) (x5 : Int32) (s0 : Int32), wpX7_look_B172 Q K25 vm x1 x2 x3 x4 x5 s0 → Z E 8 0 0 (w_Mo G a vm) [(0, .ref (a 0)), (1, .int x1), (2, .int x2), (3, .int x3), (4, .int x4), (5, .int x5)] 172 [.int s0] := by
    intro K25 ih25 vm x1 x2 x3 x4 x5 s0 h
    unfold wpX7_look_B172 at h
    refine z_istore [(6, .int s0), (0, .ref (a 0)), (1, .int x1), (2, .int x2), (3, .int x3), (4, .int x4), (5, .int x5)] F dX7_look_172 (by decide) rfl ?_
    refine z_iload F dX7_look_174 0 rfl ?_
    refine z_if_eq 184 F dX7_look_176 (by decide) (fun c9 => ?_) (fun c9 => ?_)
    · have h := h.1 c9
      refine z_iload_n F dX7_look_184 rfl 3 rfl ?_
      exact z_lv [1, 2, 4, 5, 6, 0] rfl (t185 K25 ih25 vm x1 x3 x4 x5 s0 x2 h)
    · have h := h.2 c9
      refine z_iload F dX7_look_179 5 rfl ?_
      refine z_goto 185 F dX7_look_181 (by decide) ?_
      exact z_lv [1, 2, 4, 5, 6, 0] rfl (t185 K25 ih25 vm x1 x3 x4 x5 s0 x4 h)
  have t171 : ∀ (K25 : Mo → Int32 → Int32 → Int32 → Int32 → Prop) (ih25 : ∀ (vm : Mo) (x1 : Int32) (x2 : Int32) (x3 : Int32) (x4 : Int32), K25 vm x1 x2 x3 x4 → Z E 8 0 0 (w_Mo G a vm) [(0, .ref (a 0)), (1, .int x1), (2, .int x2), (3, .int x3), (4, .int x4)] 25 []) (vm : Mo) (x1 : Int32) (x2 : Int32) (x3 : Int32) (x4 : Int32) (x5 : Int32), wpX7_look_B171 Q K25 vm x1 x2 x3 x4 x5 → Z E 8 0 0 (w_Mo G a vm) [(0, .ref (a 0)), (1, .int x1), (2, .int x2), (3, .int x3), (4, .int x4), (5, .int x5)] 171 [] := by
    intro K25 ih25 vm x1 x2 x3 x4 x5 h
    unfold wpX7_look_B171 at h
    refine z_iconst (v := 0) F dX7_look_171 rfl ?_
    exact z_lv [0, 1, 2, 3, 4, 5] rfl (t172 K25 ih25 vm x1 x2 x3 x4 x5 (0 : Int32) h)
  have t63 : ∀ (K25 : Mo → Int32 → Int32 → Int32 → Int32 → Prop) (ih25 : ∀ (vm : Mo) (x1 : Int32) (x2 : Int32) (x3 : Int32) (x4 : Int32), K25 vm x1 x2 x3 x4 → Z E 8 0 0 (w_Mo G a vm) [(0, .ref (a 0)), (1, .int x1), (2, .int x2), (3, .int x3), (4, .int x4)] 25 []) (n : Nat) (vm : Mo) (x1 : Int32) (x2 : Int32) (x3 : Int32) (x4 : Int32) (x5 : Int32) (x6 : Int32), wpX7_look_L63 Q K25 n vm x1 x2 x3 x4 x5 x6 → Z E 8 0 0 (w_Mo G a vm) [(0, .ref (a 0)), (1, .int x1), (2, .int x2), (3, .int x3), (4, .int x4), (5, .int x5), (6, .int x6)] 63 [] := by
    intro K25 ih25 n
    induction n with
    | zero => intro vm x1 x2 x3 x4 x5 x6 h; exact h.elim
    | succ n ihQ =>
      have ih63 : ∀ (vm : Mo) (x1 : Int32) (x2 : Int32) (x3 : Int32) (x4 : Int32) (x5 : Int32) (x6 : Int32), wpX7_look_L63 Q K25 n vm x1 x2 x3 x4 x5 x6 → Z E 8 0 0 (w_Mo G a vm) [(0, .ref (a 0)), (1, .int x1), (2, .int x2), (3, .int x3), (4, .int x4), (5, .int x5), (6, .int x6)] 63 [] := ihQ
      intro vm x1 x2 x3 x4 x5 x6 h
      have h : wpX7_look_H63 Q K25 (wpX7_look_L63 Q K25 n) vm x1 x2 x3 x4 x5 x6 := h
      generalize wpX7_look_L63 Q K25 n = K63 at h ih63
      clear ihQ
      unfold wpX7_look_H63 at h
      refine z_iload F dX7_look_63 6 rfl ?_
      refine z_bipush (v := 100) F dX7_look_65 rfl ?_
      refine z_icmp_ge 156 F dX7_look_67 (by decide) (fun c9 => ?_) (fun c9 => ?_)
      · have h := h.1 c9
        refine z_iload F dX7_look_156 5 rfl ?_
        refine z_if_le 171 F dX7_look_158 (by decide) (fun c9 => ?_) (fun c9 => ?_)
        · have h := h.1 c9
          exact z_lv [0, 1, 2, 3, 4, 5] rfl (t171 K25 ih25 vm x1 x2 x3 x4 x5 h)
        · have h := h.2 c9
          refine z_iload F dX7_look_161 5 rfl ?_
          refine z_iload_n F dX7_look_163 rfl 3 rfl ?_
          refine z_icmp_ge 171 F dX7_look_164 (by decide) (fun c9 => ?_) (fun c9 => ?_)
          · have h := h.1 c9
            exact z_lv [0, 1, 2, 3, 4, 5] rfl (t171 K25 ih25 vm x1 x2 x3 x4 x5 h)
          · have h := h.2 c9
            refine z_iconst (v := 1) F dX7_look_167 rfl ?_
            refine z_goto 172 F dX7_look_168 (by decide) ?_
            exact z_lv [0, 1, 2, 3, 4, 5] rfl (t172 K25 ih25 vm x1 x2 x3 x4 x5 (1 : Int32) h)
      · have h := h.2 c9
        refine z_iload F dX7_look_70 6 rfl ?_
        refine z_bipush (v := 10) F dX7_look_72 rfl ?_
        refine z_irem F dX7_look_74 (by decide) ?_
        refine z_if_le 150 F dX7_look_75 (by decide) (fun c9 => ?_) (fun c9 => ?_)
        · have h := h.1 c9
          exact z_lv [0, 1, 2, 3, 4, 5, 6] rfl (t150 K25 K63 ih25 ih63 vm x1 x2 x3 x4 x5 x6 h)
        · have h := h.2 c9
          refine z_aload_n F dX7_look_78 rfl 0 rfl ?_
          refine z_iload F dX7_look_79 6 rfl ?_
          refine z_bipush (v := 10) F dX7_look_81 rfl ?_
          refine z_idiv F dX7_look_83 (by decide) ?_
          refine z_iload F dX7_look_84 6 rfl ?_
          refine z_bipush (v := 10) F dX7_look_86 rfl ?_
          refine z_irem F dX7_look_88 (by decide) ?_
          refine z_callVi (fun u9 => w_Mo G a u9) F (mX7_fits G a vm (x6 / (10 : Int32)) (x6 - x6 / (10 : Int32) * (10 : Int32)) _ h) gX7_look_X7_fits rfl hdX7_fits ⟨rfl, rfl, Nat.le_of_ble_eq_true rfl, Nat.le_of_ble_eq_true rfl, Nat.le_of_ble_eq_true rfl, Nat.le_of_ble_eq_true rfl⟩ 0 rfl rfl [0, 1, 2, 3, 4, 5, 6, 7, 8, 9, 10, 11, 12, 13, 14, 15, 16] [] [0, 1, 2, 3, 4, 5, 6, 7, 8, 9, 10, 11, 12, 13, 14, 15, 16] rfl rfl (by decide) (fun _ => rfl) rfl (Nat.le_of_ble_eq_true rfl) dX7_look_89 (fun r_4 vm_5 h => ?_)
          refine z_if_eq 150 F dX7_look_92 (by decide) (fun c9 => ?_) (fun c9 => ?_)
          · have h := h.1 c9
            exact z_lv [0, 1, 2, 3, 4, 5, 6] rfl (t150 K25 K63 ih25 ih63 vm_5 x1 x2 x3 x4 x5 x6 h)
          · have h := h.2 c9
            refine z_aload_n F dX7_look_95 rfl 0 rfl ?_
            refine z_iload F dX7_look_96 6 rfl ?_
            refine z_bipush (v := 10) F dX7_look_98 rfl ?_
            refine z_idiv F dX7_look_100 (by decide) ?_
            refine z_iload F dX7_look_101 6 rfl ?_
            refine z_bipush (v := 10) F dX7_look_103 rfl ?_
            refine z_irem F dX7_look_105 (by decide) ?_
            refine z_iload F dX7_look_106 4 rfl ?_
            refine z_callVi (fun u9 => w_Mo G a u9) F (mX7_seenOn G a vm_5 (x6 / (10 : Int32)) (x6 - x6 / (10 : Int32) * (10 : Int32)) x4 _ h) gX7_look_X7_seenOn rfl hdX7_seenOn ⟨rfl, rfl, Nat.le_of_ble_eq_true rfl, Nat.le_of_ble_eq_true rfl, Nat.le_of_ble_eq_true rfl, Nat.le_of_ble_eq_true rfl⟩ 0 rfl rfl [0, 1, 2, 3, 4, 5, 6, 7, 8, 9, 10, 11, 12, 13, 14, 15, 16] [] [0, 1, 2, 3, 4, 5, 6, 7, 8, 9, 10, 11, 12, 13, 14, 15, 16] rfl rfl (by decide) (fun _ => rfl) rfl (Nat.le_of_ble_eq_true rfl) dX7_look_108 (fun r_6 vm_7 h => ?_)
            refine z_istore [(7, .int r_6), (0, .ref (a 0)), (1, .int x1), (2, .int x2), (3, .int x3), (4, .int x4), (5, .int x5), (6, .int x6)] F dX7_look_111 (by decide) rfl ?_
            refine z_aload_n F dX7_look_113 rfl 1 rfl ?_
            refine z_get (ci := 7) F iX7 0 rfl rfl 26 (by decide) f1 rfl rfl dX7_look_114 ?_
            refine z_iload F dX7_look_117 0 rfl ?_
            refine z_dup2 F dX7_look_119 rfl rfl ?_
            have h9 := h.1
            have h := h.2
            refine z_iald F 13 rfl h9 dX7_look_120 ?_
            refine z_iconst (v := 1) F dX7_look_121 rfl ?_
            refine z_iadd F dX7_look_122 ?_
            have h9 := h.1
            have h := h.2
            refine z_iast (w_Mo G a (Mo_s_counts vm_7 (upd (Mo_counts vm_7) (r_6).toNatClampNeg (((Mo_counts vm_7) (r_6).toNatClampNeg) + (1 : Int32))))) F 13 rfl h9 rfl dX7_look_123 ?_
            refine z_aload_n F dX7_look_124 rfl 1 rfl ?_
            refine z_get (ci := 7) F iX7 0 rfl rfl 26 (by decide) f1 rfl rfl dX7_look_125 ?_
            refine z_iload F dX7_look_128 0 rfl ?_
            have h9 := h.1
            have h := h.2
            refine z_iald (f := (upd (Mo_counts vm_7) (r_6).toNatClampNeg (((Mo_counts vm_7) (r_6).toNatClampNeg) + (1 : Int32)))) F 13 rfl h9 dX7_look_130 ?_
            refine z_iload F dX7_look_131 6 rfl ?_
            refine z_icmp_le 146 F dX7_look_133 (by decide) (fun c9 => ?_) (fun c9 => ?_)
            · have h := h.1 c9
              refine z_iload F dX7_look_146 6 rfl ?_
              exact z_lv [1, 2, 3, 4, 5, 7] rfl (t148 K25 K63 ih25 ih63 (Mo_s_counts vm_7 (upd (Mo_counts vm_7) (r_6).toNatClampNeg (((Mo_counts vm_7) (r_6).toNatClampNeg) + (1 : Int32)))) x1 x2 x3 x4 x6 x5 h)
            · have h := h.2 c9
              refine z_aload_n F dX7_look_136 rfl 1 rfl ?_
              refine z_get (ci := 7) F iX7 0 rfl rfl 26 (by decide) f1 rfl rfl dX7_look_137 ?_
              refine z_iload F dX7_look_140 0 rfl ?_
              have h9 := h.1
              have h := h.2
              refine z_iald (f := (upd (Mo_counts vm_7) (r_6).toNatClampNeg (((Mo_counts vm_7) (r_6).toNatClampNeg) + (1 : Int32)))) F 13 rfl h9 dX7_look_142 ?_
              refine z_goto 148 F dX7_look_143 (by decide) ?_
              exact z_lv [1, 2, 3, 4, 5, 7] rfl (t148 K25 K63 ih25 ih63 (Mo_s_counts vm_7 (upd (Mo_counts vm_7) (r_6).toNatClampNeg (((Mo_counts vm_7) (r_6).toNatClampNeg) + (1 : Int32)))) x1 x2 x3 x4 x6 ((upd (Mo_counts vm_7) (r_6).toNatClampNeg (((Mo_counts vm_7) (r_6).toNatClampNeg) + (1 : Int32))) (r_6).toNatClampNeg) h)
  have t38 : ∀ (K25 : Mo → Int32 → Int32 → Int32 → Int32 → Prop) (ih25 : ∀ (vm : Mo) (x1 : Int32) (x2 : Int32) (x3 : Int32) (x4 : Int32), K25 vm x1 x2 x3 x4 → Z E 8 0 0 (w_Mo G a vm) [(0, .ref (a 0)), (1, .int x1), (2, .int x2), (3, .int x3), (4, .int x4)] 25 []) (n : Nat) (vm : Mo) (x1 : Int32) (x2 : Int32) (x3 : Int32) (x4 : Int32) (x5 : Int32) (x6 : Int32), wpX7_look_L38 Q K25 n vm x1 x2 x3 x4 x5 x6 → Z E 8 0 0 (w_Mo G a vm) [(0, .ref (a 0)), (1, .int x1), (2, .int x2), (3, .int x3), (4, .int x4), (5, .int x5), (6, .int x6)] 38 [] := by
    intro K25 ih25 n
    induction n with
    | zero => intro vm x1 x2 x3 x4 x5 x6 h; exact h.elim
    | succ n ihQ =>
      have ih38 : ∀ (vm : Mo) (x1 : Int32) (x2 : Int32) (x3 : Int32) (x4 : Int32) (x5 : Int32) (x6 : Int32), wpX7_look_L38 Q K25 n vm x1 x2 x3 x4 x5 x6 → Z E 8 0 0 (w_Mo G a vm) [(0, .ref (a 0)), (1, .int x1), (2, .int x2), (3, .int x3), (4, .int x4), (5, .int x5), (6, .int x6)] 38 [] := ihQ
      intro vm x1 x2 x3 x4 x5 x6 h
      have h : wpX7_look_H38 Q K25 (wpX7_look_L38 Q K25 n) vm x1 x2 x3 x4 x5 x6 := h
      generalize wpX7_look_L38 Q K25 n = K38 at h ih38
      clear ihQ
      unfold wpX7_look_H38 at h
      refine z_iload F dX7_look_38 6 rfl ?_
      refine z_sipush (v := 1000) F dX7_look_40 rfl ?_
      refine z_icmp_ge 60 F dX7_look_43 (by decide) (fun c9 => ?_) (fun c9 => ?_)
      · have h := h.1 c9
        refine z_iconst (v := 0) F dX7_look_60 rfl ?_
        refine z_istore [(6, .int (0 : Int32)), (0, .ref (a 0)), (1, .int x1), (2, .int x2), (3, .int x3), (4, .int x4), (5, .int x5)] F dX7_look_61 (by decide) rfl ?_
        obtain ⟨n9, h⟩ := h
        exact z_lv [1, 2, 3, 4, 5, 6, 0] rfl (t63 K25 ih25 n9 vm x1 x2 x3 x4 x5 (0 : Int32) h)
      · have h := h.2 c9
        refine z_aload_n F dX7_look_46 rfl 0 rfl ?_
        refine z_get (ci := 7) F iX7 0 rfl rfl 26 (by decide) f1 rfl rfl dX7_look_47 ?_
        refine z_iload F dX7_look_50 6 rfl ?_
        refine z_iconst (v := 0) F dX7_look_52 rfl ?_
        have h9 := h.1
        have h := h.2
        refine z_iast (w_Mo G a (Mo_s_counts vm (upd (Mo_counts vm) (x6).toNatClampNeg (0 : Int32)))) F 13 rfl h9 rfl dX7_look_53 ?_
        obtain ⟨x6_3, e9⟩ : ∃ z : Int32, z = x6 + 1 := ⟨_, rfl⟩
        have h := h x6_3 e9
        refine z_iinc (v := x6_3) [(6, .int x6_3), (0, .ref (a 0)), (1, .int x1), (2, .int x2), (3, .int x3), (4, .int x4), (5, .int x5)] F dX7_look_54 6 rfl (by rw [e9]; rfl) (by decide) rfl ?_
        refine z_goto 38 F dX7_look_57 (by decide) ?_
        exact z_lv [1, 2, 3, 4, 5, 6, 0] rfl (ih38 (Mo_s_counts vm (upd (Mo_counts vm) (x6).toNatClampNeg (0 : Int32))) x1 x2 x3 x4 x5 x6_3 h)
  have t25 : ∀ (n : Nat) (vm : Mo) (x1 : Int32) (x2 : Int32) (x3 : Int32) (x4 : Int32), wpX7_look_L25 Q n vm x1 x2 x3 x4 → Z E 8 0 0 (w_Mo G a vm) [(0, .ref (a 0)), (1, .int x1), (2, .int x2), (3, .int x3), (4, .int x4)] 25 [] := by
    intro n
    induction n with
    | zero => intro vm x1 x2 x3 x4 h; exact h.elim
    | succ n ihQ =>
      have ih25 : ∀ (vm : Mo) (x1 : Int32) (x2 : Int32) (x3 : Int32) (x4 : Int32), wpX7_look_L25 Q n vm x1 x2 x3 x4 → Z E 8 0 0 (w_Mo G a vm) [(0, .ref (a 0)), (1, .int x1), (2, .int x2), (3, .int x3), (4, .int x4)] 25 [] := ihQ
      intro vm x1 x2 x3 x4 h
      have h : wpX7_look_H25 Q (wpX7_look_L25 Q n) vm x1 x2 x3 x4 := h
      generalize wpX7_look_L25 Q n = K25 at h ih25
      clear ihQ
      unfold wpX7_look_H25 at h
      refine z_iload F dX7_look_25 4 rfl ?_
      refine z_bipush (v := 61) F dX7_look_27 rfl ?_
      refine z_icmp_ge 204 F dX7_look_29 (by decide) (fun c9 => ?_) (fun c9 => ?_)
      · have h := h.1 c9
        refine z_iload_n F dX7_look_204 rfl 2 rfl ?_
        refine z_if_lt 212 F dX7_look_205 (by decide) (fun c9 => ?_) (fun c9 => ?_)
        · have h := h.1 c9
          refine z_iload_n F dX7_look_212 rfl 2 rfl ?_
          refine z_goto 217 F dX7_look_213 (by decide) ?_
          exact hret x2 vm _ _ h dX7_look_217
        · have h := h.2 c9
          refine z_iload_n F dX7_look_208 rfl 1 rfl ?_
          refine z_if_ne 216 F dX7_look_209 (by decide) (fun c9 => ?_) (fun c9 => ?_)
          · have h := h.1 c9
            refine z_iload_n F dX7_look_216 rfl 3 rfl ?_
            exact hret x3 vm _ _ h dX7_look_217
          · have h := h.2 c9
            refine z_iload_n F dX7_look_212 rfl 2 rfl ?_
            refine z_goto 217 F dX7_look_213 (by decide) ?_
            exact hret x2 vm _ _ h dX7_look_217
      · have h := h.2 c9
        refine z_iconst (v := 0) F dX7_look_32 rfl ?_
        refine z_istore [(5, .int (0 : Int32)), (0, .ref (a 0)), (1, .int x1), (2, .int x2), (3, .int x3), (4, .int x4)] F dX7_look_33 (by decide) rfl ?_
        refine z_iconst (v := 0) F dX7_look_35 rfl ?_
        refine z_istore [(6, .int (0 : Int32)), (5, .int (0 : Int32)), (0, .ref (a 0)), (1, .int x1), (2, .int x2), (3, .int x3), (4, .int x4)] F dX7_look_36 (by decide) rfl ?_
        obtain ⟨n9, h⟩ := h
        exact z_lv [2, 3, 4, 5, 6, 1, 0] rfl (t38 K25 ih25 n9 vm x1 x2 x3 x4 (0 : Int32) (0 : Int32) h)
  unfold wpX7_look at h
  refine z_iload_n F dX7_look_0 rfl 1 rfl ?_
  refine z_iconst (v := 0) F dX7_look_1 rfl ?_
  refine z_iconst (v := 1) F dX7_look_2 rfl ?_
  refine z_callSi (fun _ => w_Mo G a vm) F (mX7_in G p1 (0 : Int32) (1 : Int32) _ h) gX7_look_X7_in rfl hdX7_in ⟨rfl, rfl, Nat.le_of_ble_eq_true rfl, Nat.le_of_ble_eq_true rfl, Nat.le_of_ble_eq_true rfl, Nat.le_of_ble_eq_true rfl⟩ [] [0, 1, 2, 3, 4, 5, 6, 7, 8, 9, 10, 11, 12, 13, 14, 15, 16] [0, 1, 2, 3, 4, 5, 6, 7, 8, 9, 10, 11, 12, 13, 14, 15, 16] rfl rfl (by decide) (fun _ => rfl) rfl (Nat.le_of_ble_eq_true rfl) dX7_look_3 (fun r_1 u9 h => ?_)
  refine z_if_ne 12 F dX7_look_6 (by decide) (fun c9 => ?_) (fun c9 => ?_)
  · have h := h.1 c9
    refine z_aload_n F dX7_look_12 rfl 0 rfl ?_
    refine z_callVv (fun u9 => w_Mo G a u9) F (mX7_layShown G a vm _ h) gX7_look_X7_layShown rfl hdX7_layShown ⟨rfl, rfl, Nat.le_of_ble_eq_true rfl, Nat.le_of_ble_eq_true rfl, Nat.le_of_ble_eq_true rfl, Nat.le_of_ble_eq_true rfl⟩ 0 rfl rfl [0, 1, 2, 3, 4, 5, 6, 7, 8, 9, 10, 11, 12, 13, 14, 15, 16] [] [0, 1, 2, 3, 4, 5, 6, 7, 8, 9, 10, 11, 12, 13, 14, 15, 16] rfl rfl (by decide) (fun _ => rfl) rfl (Nat.le_of_ble_eq_true rfl) dX7_look_13 (fun vm_2 h => ?_)
    refine z_bipush (v := -6) F dX7_look_16 rfl ?_
    refine z_istore_n [(2, .int (-6 : Int32)), (0, .ref (a 0)), (1, .int p1)] F dX7_look_18 rfl (by decide) rfl ?_
    refine z_ldc (v := 1000000) F dX7_look_19 f0 ?_
    refine z_istore_n [(3, .int (1000000 : Int32)), (2, .int (-6 : Int32)), (0, .ref (a 0)), (1, .int p1)] F dX7_look_21 rfl (by decide) rfl ?_
    refine z_iconst (v := 0) F dX7_look_22 rfl ?_
    refine z_istore [(4, .int (0 : Int32)), (3, .int (1000000 : Int32)), (2, .int (-6 : Int32)), (0, .ref (a 0)), (1, .int p1)] F dX7_look_23 (by decide) rfl ?_
    obtain ⟨n9, h⟩ := h
    exact z_lv [3, 4, 2, 1, 0] rfl (t25 n9 vm_2 p1 (-6 : Int32) (1000000 : Int32) (0 : Int32) h)
  · have h := h.2 c9
    refine z_bipush (v := -2) F dX7_look_9 rfl ?_
    exact hret (-2 : Int32) vm _ _ h dX7_look_11
abbrev rmX7_fogs : Room := { frames := 2, cells := 0, slots := 0, locals := 49 }
set_option maxRecDepth 100000 in
set_option maxHeartbeats 4000000 in
theorem mX7_fogs (G : ZG) (a : Nat → Nat) (vm : Mo) (p1 : Int32) (p2 : Int32) (p3 : Int32) (p4 : Int32) (p5 : Int32) (p6 : Int32) (Q : Int64 → Mo → Prop) (h : wpX7_fogs vm p1 p2 p3 p4 p5 p6 Q) : ZMl G yX7_fogs wsX7_fogs rmX7_fogs [.ref (a 0), .int p1, .int p2, .int p3, .int p4, .int p5, .int p6] (w_Mo G a vm) (fun vm : Mo => w_Mo G a vm) (Q) := by
  refine z_ofl (cc := cX7_fogs) (N := 17) (lv := [(0, .ref (a 0)), (1, .int p1), (2, .int p2), (3, .int p3), (4, .int p4), (5, .int p5), (6, .int p6)]) (by decide) rfl (Nat.le_of_ble_eq_true rfl) rfl (fun E F hret => ?_)
  have F : ZF E 17 cX7_fogs RX7 wsX7_fogs rmX7_fogs G := F
  have f0 : ZW E (.constantLong RX7 182 (-1000000000000000002)) := F.at 1 rfl
  have f1 : ZW E (.constantLong RX7 184 (10)) := F.at 2 rfl
  have f2 : ZW E (.fieldLink RX7 81 "ColourEchoModel" "fogNow" "I") := F.at 3 rfl
  have iX7 : ∀ x ∈ u_ws RX7 TX7 30, x ∈ wsX7_fogs := fun _ h => List.mem_cons_of_mem _ (List.mem_append_right _ h)
  have t166 : ∀ (K97 : Mo → Int32 → Int32 → Int32 → Int32 → Int32 → Int32 → Int64 → Int64 → Int32 → Prop) (K115 : Mo → Int32 → Int32 → Int32 → Int32 → Int32 → Int32 → Int64 → Int64 → Int32 → Int64 → Int32 → Prop) (ih97 : ∀ (vm : Mo) (x1 : Int32) (x2 : Int32) (x3 : Int32) (x4 : Int32) (x5 : Int32) (x6 : Int32) (x7 : Int64) (x9 : Int64) (x11 : Int32), K97 vm x1 x2 x3 x4 x5 x6 x7 x9 x11 → Z E 17 0 0 (w_Mo G a vm) [(0, .ref (a 0)), (1, .int x1), (2, .int x2), (3, .int x3), (4, .int x4), (5, .int x5), (6, .int x6), (7, .long x7), (9, .long x9), (11, .int x11)] 97 []) (ih115 : ∀ (vm : Mo) (x1 : Int32) (x2 : Int32) (x3 : Int32) (x4 : Int32) (x5 : Int32) (x6 : Int32) (x7 : Int64) (x9 : Int64) (x11 : Int32) (x12 : Int64) (x14 : Int32), K115 vm x1 x2 x3 x4 x5 x6 x7 x9 x11 x12 x14 → Z E 17 0 0 (w_Mo G a vm) [(0, .ref (a 0)), (1, .int x1), (2, .int x2), (3, .int x3), (4, .int x4), (5, .int x5), (6, .int x6), (7, .long x7), (9, .long x9), (11, .int x11), (12, .long x12), (14, .int x14)] 115 []) (vm : Mo) (x1 : Int32) (x2 : Int32) (x3 : Int32) (x4 : Int32) (x5 : Int32) (x6 : Int32) (x7 : Int64) (x9 : Int64) (x11 : Int32) (x12 : Int64) (x14 : Int32) (s1 : Int32), wpX7_fogs_B166 Q K97 K115 vm x1 x2 x3 x4 x5 x6 x7 x9 x11 x12 x14 s1 → Z E 17 0 0 (w_Mo G a vm) [(0, .ref (a 0)), (1, .int x1), (2, .int x2), (3, .int x3), (4, .int x4), (5, .int x5), (6, .int x6), (7, .long x7), (9, .long x9), (11, .int x11), (12, .long x12), (14, .int x14)] 166 [.int s1, .ref (a 0)] := by
    intro K97 K115 ih97 ih115 vm x1 x2 x3 x4 x5 x6 x7 x9 x11 x12 x14 s1 h
    unfold wpX7_fogs_B166 at h
    refine z_put (ci := 7) (ty := .int) (w_Mo G a (Mo_s_fogNow vm s1)) F iX7 tyX7 tyX7_ok nmX7 0 rfl rfl 17 (by decide) f2 rfl rfl rfl rfl rfl (Nat.le_of_ble_eq_true rfl) rfl dX7_fogs_166 ?_
    obtain ⟨x14_21, e9⟩ : ∃ z : Int32, z = x14 + 1 := ⟨_, rfl⟩
    have h := h x14_21 e9
    refine z_iinc (v := x14_21) [(14, .int x14_21), (0, .ref (a 0)), (1, .int x1), (2, .int x2), (3, .int x3), (4, .int x4), (5, .int x5), (6, .int x6), (7, .long x7), (9, .long x9), (11, .int x11), (12, .long x12)] F dX7_fogs_169 11 rfl (by rw [e9]; rfl) (by decide) rfl ?_
    refine z_goto 115 F dX7_fogs_172 (by decide) ?_
    exact z_lv [1, 2, 3, 4, 5, 6, 7, 8, 9, 10, 11, 0] rfl (ih115 (Mo_s_fogNow vm s1) x1 x2 x3 x4 x5 x6 x7 x9 x11 x12 x14_21 h)
  have t147 : ∀ (K97 : Mo → Int32 → Int32 → Int32 → Int32 → Int32 → Int32 → Int64 → Int64 → Int32 → Prop) (K115 : Mo → Int32 → Int32 → Int32 → Int32 → Int32 → Int32 → Int64 → Int64 → Int32 → Int64 → Int32 → Prop) (ih97 : ∀ (vm : Mo) (x1 : Int32) (x2 : Int32) (x3 : Int32) (x4 : Int32) (x5 : Int32) (x6 : Int32) (x7 : Int64) (x9 : Int64) (x11 : Int32), K97 vm x1 x2 x3 x4 x5 x6 x7 x9 x11 → Z E 17 0 0 (w_Mo G a vm) [(0, .ref (a 0)), (1, .int x1), (2, .int x2), (3, .int x3), (4, .int x4), (5, .int x5), (6, .int x6), (7, .long x7), (9, .long x9), (11, .int x11)] 97 []) (ih115 : ∀ (vm : Mo) (x1 : Int32) (x2 : Int32) (x3 : Int32) (x4 : Int32) (x5 : Int32) (x6 : Int32) (x7 : Int64) (x9 : Int64) (x11 : Int32) (x12 : Int64) (x14 : Int32), K115 vm x1 x2 x3 x4 x5 x6 x7 x9 x11 x12 x14 → Z E 17 0 0 (w_Mo G a vm) [(0, .ref (a 0)), (1, .int x1), (2, .int x2), (3, .int x3), (4, .int x4), (5, .int x5), (6, .int x6), (7, .long x7), (9, .long x9), (11, .int x11), (12, .long x12), (14, .int x14)] 115 []) (vm : Mo) (x1 : Int32) (x2 : Int32) (x3 : Int32) (x4 : Int32) (x5 : Int32) (x6 : Int32) (x7 : Int64) (x9 : Int64) (x11 : Int32) (x14 : Int32) (s0 : Int64) (s1 : Int64), wpX7_fogs_B147 Q K97 K115 vm x1 x2 x3 x4 x5 x6 x7 x9 x11 x14 s0 s1 → Z E 17 0 0 (w_Mo G a vm) [(0, .ref (a 0)), (1, .int x1), (2, .int x2), (3, .int x3), (4, .int x4), (5, .int x5), (6, .int x6), (7, .long x7), (9, .long x9), (11, .int x11), (14, .int x14)] 147 [.long s1, .long s0] := by
    intro K97 K115 ih97 ih115 vm x1 x2 x3 x4 x5 x6 x7 x9 x11 x14 s0 s1 h
    unfold wpX7_fogs_B147 at h
    refine z_lmul F dX7_fogs_147 ?_
    refine z_topl (fun x12_19 e9 => ?_)
    have h := h x12_19 e9
    refine z_lstore [(12, .long x12_19), (0, .ref (a 0)), (1, .int x1), (2, .int x2), (3, .int x3), (4, .int x4), (5, .int x5), (6, .int x6), (7, .long x7), (9, .long x9), (11, .int x11), (14, .int x14)] F dX7_fogs_148 (by decide) rfl ?_
    refine z_aload_n F dX7_fogs_150 rfl 1 rfl ?_
    refine z_iload F dX7_fogs_151 10 rfl ?_
    refine z_iload F dX7_fogs_153 11 rfl ?_
    refine z_callSi (fun _ => w_Mo G a vm) F (mX7_has G x11 x14 _ h) gX7_fogs_X7_has rfl hdX7_has ⟨rfl, rfl, Nat.le_of_ble_eq_true rfl, Nat.le_of_ble_eq_true rfl, Nat.le_of_ble_eq_true rfl, Nat.le_of_ble_eq_true rfl⟩ [] [0, 1, 2, 3, 4, 5, 6, 7, 8, 9, 10, 11, 12, 13, 14, 15, 16] [0, 1, 2, 3, 4, 5, 6, 7, 8, 9, 10, 11, 12, 13, 14, 15, 16] rfl rfl (by decide) (fun _ => rfl) rfl (Nat.le_of_ble_eq_true rfl) dX7_fogs_155 (fun r_20 u9 h => ?_)
    refine z_if_eq 165 F dX7_fogs_158 (by decide) (fun c9 => ?_) (fun c9 => ?_)
    · have h := h.1 c9
      refine z_iconst (v := 0) F dX7_fogs_165 rfl ?_
      exact z_lv [1, 2, 3, 4, 5, 6, 7, 8, 9, 10, 0, 11] rfl (t166 K97 K115 ih97 ih115 vm x1 x2 x3 x4 x5 x6 x7 x9 x11 x12_19 x14 (0 : Int32) h)
    · have h := h.2 c9
      refine z_iconst (v := 1) F dX7_fogs_161 rfl ?_
      refine z_goto 166 F dX7_fogs_162 (by decide) ?_
      exact z_lv [1, 2, 3, 4, 5, 6, 7, 8, 9, 10, 0, 11] rfl (t166 K97 K115 ih97 ih115 vm x1 x2 x3 x4 x5 x6 x7 x9 x11 x12_19 x14 (1 : Int32) h)
  have t211 : ∀ (K97 : Mo → Int32 → Int32 → Int32 → Int32 → Int32 → Int32 → Int64 → Int64 → Int32 → Prop) (ih97 : ∀ (vm : Mo) (x1 : Int32) (x2 : Int32) (x3 : Int32) (x4 : Int32) (x5 : Int32) (x6 : Int32) (x7 : Int64) (x9 : Int64) (x11 : Int32), K97 vm x1 x2 x3 x4 x5 x6 x7 x9 x11 → Z E 17 0 0 (w_Mo G a vm) [(0, .ref (a 0)), (1, .int x1), (2, .int x2), (3, .int x3), (4, .int x4), (5, .int x5), (6, .int x6), (7, .long x7), (9, .long x9), (11, .int x11)] 97 []) (vm : Mo) (x1 : Int32) (x2 : Int32) (x3 : Int32) (x4 : Int32) (x5 : Int32) (x6 : Int32) (x9 : Int64) (x11 : Int32) (s0 : Int64) (s1 : Int64), wpX7_fogs_B211 Q K97 vm x1 x2 x3 x4 x5 x6 x9 x11 s0 s1 → Z E 17 0 0 (w_Mo G a vm) [(0, .ref (a 0)), (1, .int x1), (2, .int x2), (3, .int x3), (4, .int x4), (5, .int x5), (6, .int x6), (9, .long x9), (11, .int x11)] 211 [.long s1, .long s0] := by
    intro K97 ih97 vm x1 x2 x3 x4 x5 x6 x9 x11 s0 s1 h
    unfold wpX7_fogs_B211 at h
    refine z_ladd F dX7_fogs_211 ?_
    refine z_topl (fun x7_17 e9 => ?_)
    have h := h x7_17 e9
    refine z_lstore [(7, .long x7_17), (0, .ref (a 0)), (1, .int x1), (2, .int x2), (3, .int x3), (4, .int x4), (5, .int x5), (6, .int x6), (9, .long x9), (11, .int x11)] F dX7_fogs_212 (by decide) rfl ?_
    obtain ⟨x11_18, e9⟩ : ∃ z : Int32, z = x11 + 1 := ⟨_, rfl⟩
    have h := h x11_18 e9
    refine z_iinc (v := x11_18) [(11, .int x11_18), (7, .long x7_17), (0, .ref (a 0)), (1, .int x1), (2, .int x2), (3, .int x3), (4, .int x4), (5, .int x5), (6, .int x6), (9, .long x9)] F dX7_fogs_214 9 rfl (by rw [e9]; rfl) (by decide) rfl ?_
    refine z_goto 97 F dX7_fogs_217 (by decide) ?_
    exact z_lv [2, 3, 4, 5, 6, 7, 8, 1, 9, 0] rfl (ih97 vm x1 x2 x3 x4 x5 x6 x7_17 x9 x11_18 h)
  have t115 : ∀ (K97 : Mo → Int32 → Int32 → Int32 → Int32 → Int32 → Int32 → Int64 → Int64 → Int32 → Prop) (ih97 : ∀ (vm : Mo) (x1 : Int32) (x2 : Int32) (x3 : Int32) (x4 : Int32) (x5 : Int32) (x6 : Int32) (x7 : Int64) (x9 : Int64) (x11 : Int32), K97 vm x1 x2 x3 x4 x5 x6 x7 x9 x11 → Z E 17 0 0 (w_Mo G a vm) [(0, .ref (a 0)), (1, .int x1), (2, .int x2), (3, .int x3), (4, .int x4), (5, .int x5), (6, .int x6), (7, .long x7), (9, .long x9), (11, .int x11)] 97 []) (n : Nat) (vm : Mo) (x1 : Int32) (x2 : Int32) (x3 : Int32) (x4 : Int32) (x5 : Int32) (x6 : Int32) (x7 : Int64) (x9 : Int64) (x11 : Int32) (x12 : Int64) (x14 : Int32), wpX7_fogs_L115 Q K97 n vm x1 x2 x3 x4 x5 x6 x7 x9 x11 x12 x14 → Z E 17 0 0 (w_Mo G a vm) [(0, .ref (a 0)), (1, .int x1), (2, .int x2), (3, .int x3), (4, .int x4), (5, .int x5), (6, .int x6), (7, .long x7), (9, .long x9), (11, .int x11), (12, .long x12), (14, .int x14)] 115 [] := by
    intro K97 ih97 n
    induction n with
    | zero => intro vm x1 x2 x3 x4 x5 x6 x7 x9 x11 x12 x14 h; exact h.elim
    | succ n ihQ =>
      have ih115 : ∀ (vm : Mo) (x1 : Int32) (x2 : Int32) (x3 : Int32) (x4 : Int32) (x5 : Int32) (x6 : Int32) (x7 : Int64) (x9 : Int64) (x11 : Int32) (x12 : Int64) (x14 : Int32), wpX7_fogs_L115 Q K97 n vm x1 x2 x3 x4 x5 x6 x7 x9 x11 x12 x14 → Z E 17 0 0 (w_Mo G a vm) [(0, .ref (a 0)), (1, .int x1), (2, .int x2), (3, .int x3), (4, .int x4), (5, .int x5), (6, .int x6), (7, .long x7), (9, .long x9), (11, .int x11), (12, .long x12), (14, .int x14)] 115 [] := ihQ
      intro vm x1 x2 x3 x4 x5 x6 x7 x9 x11 x12 x14 h
      have h : wpX7_fogs_H115 Q K97 (wpX7_fogs_L115 Q K97 n) vm x1 x2 x3 x4 x5 x6 x7 x9 x11 x12 x14 := h
      generalize wpX7_fogs_L115 Q K97 n = K115 at h ih115
      clear ihQ
      unfold wpX7_fogs_H115 at h
      refine z_iload F dX7_fogs_115 11 rfl ?_
      refine z_iload_n F dX7_fogs_117 rfl 2 rfl ?_
      refine z_icmp_ge 175 F dX7_fogs_118 (by decide) (fun c9 => ?_) (fun c9 => ?_)
      · have h := h.1 c9
        refine z_lload F dX7_fogs_175 7 rfl ?_
        refine z_iload F dX7_fogs_177 5 rfl ?_
        refine z_iconst (v := 1) F dX7_fogs_179 rfl ?_
        refine z_icmp_ne 195 F dX7_fogs_180 (by decide) (fun c9 => ?_) (fun c9 => ?_)
        · have h := h.1 c9
          refine z_aload_n F dX7_fogs_195 rfl 0 rfl ?_
          refine z_iload_n F dX7_fogs_196 rfl 1 rfl ?_
          refine z_callVi (fun u9 => w_Mo G a u9) F (mX7_see G a vm x1 _ h) gX7_fogs_X7_see rfl hdX7_see ⟨rfl, rfl, Nat.le_of_ble_eq_true rfl, Nat.le_of_ble_eq_true rfl, Nat.le_of_ble_eq_true rfl, Nat.le_of_ble_eq_true rfl⟩ 0 rfl rfl [0, 1, 2, 3, 4, 5, 6, 7, 8, 9, 10, 11, 12, 13, 14, 15, 16] [] [0, 1, 2, 3, 4, 5, 6, 7, 8, 9, 10, 11, 12, 13, 14, 15, 16] rfl rfl (by decide) (fun _ => rfl) rfl (Nat.le_of_ble_eq_true rfl) dX7_fogs_197 (fun r_11 vm_12 h => ?_)
          refine z_iload F dX7_fogs_200 4 rfl ?_
          refine z_icmp_lt 210 F dX7_fogs_202 (by decide) (fun c9 => ?_) (fun c9 => ?_)
          · have h := h.1 c9
            refine z_lconst (v := 0) F dX7_fogs_210 rfl ?_
            exact z_lv [0, 1, 2, 3, 4, 5, 6, 8, 9] rfl (t211 K97 ih97 vm_12 x1 x2 x3 x4 x5 x6 x9 x11 x7 (0 : Int64) h)
          · have h := h.2 c9
            refine z_lload F dX7_fogs_205 10 rfl ?_
            refine z_goto 211 F dX7_fogs_207 (by decide) ?_
            exact z_lv [0, 1, 2, 3, 4, 5, 6, 8, 9] rfl (t211 K97 ih97 vm_12 x1 x2 x3 x4 x5 x6 x9 x11 x7 x12 h)
        · have h := h.2 c9
          refine z_lload F dX7_fogs_183 10 rfl ?_
          refine z_aload_n F dX7_fogs_185 rfl 0 rfl ?_
          refine z_iload_n F dX7_fogs_186 rfl 1 rfl ?_
          refine z_callVi (fun u9 => w_Mo G a u9) F (mX7_see G a vm x1 _ h) gX7_fogs_X7_see rfl hdX7_see ⟨rfl, rfl, Nat.le_of_ble_eq_true rfl, Nat.le_of_ble_eq_true rfl, Nat.le_of_ble_eq_true rfl, Nat.le_of_ble_eq_true rfl⟩ 0 rfl rfl [0, 1, 2, 3, 4, 5, 6, 7, 8, 9, 10, 11, 12, 13, 14, 15, 16] [] [0, 1, 2, 3, 4, 5, 6, 7, 8, 9, 10, 11, 12, 13, 14, 15, 16] rfl rfl (by decide) (fun _ => rfl) rfl (Nat.le_of_ble_eq_true rfl) dX7_fogs_187 (fun r_13 vm_14 h => ?_)
          refine z_i2l F dX7_fogs_190 ?_
          refine z_lmul F dX7_fogs_191 ?_
          refine z_goto 211 F dX7_fogs_192 (by decide) ?_
          exact z_lv [0, 1, 2, 3, 4, 5, 6, 8, 9] rfl (t211 K97 ih97 vm_14 x1 x2 x3 x4 x5 x6 x9 x11 x7 (x12 * (r_13).toInt64) h)
      · have h := h.2 c9
        refine z_aload_n F dX7_fogs_121 rfl 0 rfl ?_
        refine z_callVv (fun u9 => w_Mo G a u9) F (mX7_pass G a vm _ h) gX7_fogs_X7_pass rfl hdX7_pass ⟨rfl, rfl, Nat.le_of_ble_eq_true rfl, Nat.le_of_ble_eq_true rfl, Nat.le_of_ble_eq_true rfl, Nat.le_of_ble_eq_true rfl⟩ 0 rfl rfl [0, 1, 2, 3, 4, 5, 6, 7, 8, 9, 10, 11, 12, 13, 14, 15, 16] [] [0, 1, 2, 3, 4, 5, 6, 7, 8, 9, 10, 11, 12, 13, 14, 15, 16] rfl rfl (by decide) (fun _ => rfl) rfl (Nat.le_of_ble_eq_true rfl) dX7_fogs_122 (fun vm_15 h => ?_)
        refine z_lload F dX7_fogs_125 10 rfl ?_
        refine z_iload F dX7_fogs_127 9 rfl ?_
        refine z_iload F dX7_fogs_129 11 rfl ?_
        refine z_callSi (fun _ => w_Mo G a vm_15) F (mX7_has G x11 x14 _ h) gX7_fogs_X7_has rfl hdX7_has ⟨rfl, rfl, Nat.le_of_ble_eq_true rfl, Nat.le_of_ble_eq_true rfl, Nat.le_of_ble_eq_true rfl, Nat.le_of_ble_eq_true rfl⟩ [] [0, 1, 2, 3, 4, 5, 6, 7, 8, 9, 10, 11, 12, 13, 14, 15, 16] [0, 1, 2, 3, 4, 5, 6, 7, 8, 9, 10, 11, 12, 13, 14, 15, 16] rfl rfl (by decide) (fun _ => rfl) rfl (Nat.le_of_ble_eq_true rfl) dX7_fogs_131 (fun r_16 u9 h => ?_)
        refine z_if_eq 142 F dX7_fogs_134 (by decide) (fun c9 => ?_) (fun c9 => ?_)
        · have h := h.1 c9
          refine z_bipush (v := 10) F dX7_fogs_142 rfl ?_
          refine z_iload_n F dX7_fogs_144 rfl 3 rfl ?_
          refine z_isub F dX7_fogs_145 ?_
          refine z_i2l F dX7_fogs_146 ?_
          exact z_lv [0, 1, 2, 3, 4, 5, 6, 7, 8, 9, 11] rfl (t147 K97 K115 ih97 ih115 vm_15 x1 x2 x3 x4 x5 x6 x7 x9 x11 x14 x12 ((((10 : Int32) - x3)).toInt64) h)
        · have h := h.2 c9
          refine z_iload_n F dX7_fogs_137 rfl 3 rfl ?_
          refine z_i2l F dX7_fogs_138 ?_
          refine z_goto 147 F dX7_fogs_139 (by decide) ?_
          exact z_lv [0, 1, 2, 3, 4, 5, 6, 7, 8, 9, 11] rfl (t147 K97 K115 ih97 ih115 vm_15 x1 x2 x3 x4 x5 x6 x7 x9 x11 x14 x12 ((x3).toInt64) h)
  have t228 : ∀ (n : Nat) (vm : Mo) (x6 : Int32) (x7 : Int64) (x9 : Int64) (x11 : Int64) (x13 : Int64), wpX7_fogs_L228 Q n vm x6 x7 x9 x11 x13 → Z E 17 0 0 (w_Mo G a vm) [(6, .int x6), (7, .long x7), (9, .long x9), (11, .long x11), (13, .long x13)] 228 [] := by
    intro n
    induction n with
    | zero => intro vm x6 x7 x9 x11 x13 h; exact h.elim
    | succ n ihQ =>
      have ih228 : ∀ (vm : Mo) (x6 : Int32) (x7 : Int64) (x9 : Int64) (x11 : Int64) (x13 : Int64), wpX7_fogs_L228 Q n vm x6 x7 x9 x11 x13 → Z E 17 0 0 (w_Mo G a vm) [(6, .int x6), (7, .long x7), (9, .long x9), (11, .long x11), (13, .long x13)] 228 [] := ihQ
      intro vm x6 x7 x9 x11 x13 h
      have h : wpX7_fogs_H228 Q (wpX7_fogs_L228 Q n) vm x6 x7 x9 x11 x13 := h
      generalize wpX7_fogs_L228 Q n = K228 at h ih228
      clear ihQ
      unfold wpX7_fogs_H228 at h
      refine z_lload F dX7_fogs_228 4 rfl ?_
      refine z_lconst (v := 0) F dX7_fogs_230 rfl ?_
      refine z_lcmp F dX7_fogs_231 ?_
      refine z_if_eq 253 F dX7_fogs_232 (by decide) (fun c9 => ?_) (fun c9 => ?_)
      · have h := h.1 c9
        refine z_iload F dX7_fogs_253 0 rfl ?_
        refine z_if_ne 266 F dX7_fogs_255 (by decide) (fun c9 => ?_) (fun c9 => ?_)
        · have h := h.1 c9
          refine z_lload F dX7_fogs_266 2 rfl ?_
          refine z_lload F dX7_fogs_268 3 rfl ?_
          have h9 := h.1
          have h := h.2
          refine z_ldiv F dX7_fogs_270 h9 ?_
          exact hret (x9 / x11) vm _ _ h dX7_fogs_271
        · have h := h.2 c9
          refine z_lload F dX7_fogs_258 1 rfl ?_
          refine z_lload F dX7_fogs_260 3 rfl ?_
          have h9 := h.1
          have h := h.2
          refine z_ldiv F dX7_fogs_262 h9 ?_
          refine z_goto 271 F dX7_fogs_263 (by decide) ?_
          exact hret (x7 / x11) vm _ _ h dX7_fogs_271
      · have h := h.2 c9
        refine z_lload F dX7_fogs_235 3 rfl ?_
        refine z_lload F dX7_fogs_237 4 rfl ?_
        have h9 := h.1
        have h := h.2
        refine z_lrem F dX7_fogs_239 h9 ?_
        refine z_topl (fun x15_10 e9 => ?_)
        have h := h x15_10 e9
        refine z_lstore [(15, .long x15_10), (6, .int x6), (7, .long x7), (9, .long x9), (11, .long x11), (13, .long x13)] F dX7_fogs_240 (by decide) rfl ?_
        refine z_lload F dX7_fogs_242 5 rfl ?_
        refine z_lstore [(11, .long x13), (15, .long x15_10), (6, .int x6), (7, .long x7), (9, .long x9), (13, .long x13)] F dX7_fogs_244 (by decide) rfl ?_
        refine z_lload F dX7_fogs_246 1 rfl ?_
        refine z_lstore [(13, .long x15_10), (11, .long x13), (15, .long x15_10), (6, .int x6), (7, .long x7), (9, .long x9)] F dX7_fogs_248 (by decide) rfl ?_
        refine z_goto 228 F dX7_fogs_250 (by decide) ?_
        exact z_lv [3, 4, 5, 1, 0] rfl (ih228 vm x6 x7 x9 x13 x15_10 h)
  have t97 : ∀ (n : Nat) (vm : Mo) (x1 : Int32) (x2 : Int32) (x3 : Int32) (x4 : Int32) (x5 : Int32) (x6 : Int32) (x7 : Int64) (x9 : Int64) (x11 : Int32), wpX7_fogs_L97 Q n vm x1 x2 x3 x4 x5 x6 x7 x9 x11 → Z E 17 0 0 (w_Mo G a vm) [(0, .ref (a 0)), (1, .int x1), (2, .int x2), (3, .int x3), (4, .int x4), (5, .int x5), (6, .int x6), (7, .long x7), (9, .long x9), (11, .int x11)] 97 [] := by
    intro n
    induction n with
    | zero => intro vm x1 x2 x3 x4 x5 x6 x7 x9 x11 h; exact h.elim
    | succ n ihQ =>
      have ih97 : ∀ (vm : Mo) (x1 : Int32) (x2 : Int32) (x3 : Int32) (x4 : Int32) (x5 : Int32) (x6 : Int32) (x7 : Int64) (x9 : Int64) (x11 : Int32), wpX7_fogs_L97 Q n vm x1 x2 x3 x4 x5 x6 x7 x9 x11 → Z E 17 0 0 (w_Mo G a vm) [(0, .ref (a 0)), (1, .int x1), (2, .int x2), (3, .int x3), (4, .int x4), (5, .int x5), (6, .int x6), (7, .long x7), (9, .long x9), (11, .int x11)] 97 [] := ihQ
      intro vm x1 x2 x3 x4 x5 x6 x7 x9 x11 h
      have h : wpX7_fogs_H97 Q (wpX7_fogs_L97 Q n) vm x1 x2 x3 x4 x5 x6 x7 x9 x11 := h
      generalize wpX7_fogs_L97 Q n = K97 at h ih97
      clear ihQ
      unfold wpX7_fogs_H97 at h
      refine z_iload F dX7_fogs_97 9 rfl ?_
      refine z_iconst (v := 1) F dX7_fogs_99 rfl ?_
      refine z_iload_n F dX7_fogs_100 rfl 2 rfl ?_
      refine z_ishl F dX7_fogs_101 ?_
      refine z_icmp_ge 220 F dX7_fogs_102 (by decide) (fun c9 => ?_) (fun c9 => ?_)
      · have h := h.1 c9
        refine z_lload F dX7_fogs_220 7 rfl ?_
        refine z_lstore [(11, .long x7), (0, .ref (a 0)), (1, .int x1), (2, .int x2), (3, .int x3), (4, .int x4), (5, .int x5), (6, .int x6), (7, .long x7), (9, .long x9)] F dX7_fogs_222 (by decide) rfl ?_
        refine z_lload F dX7_fogs_224 9 rfl ?_
        refine z_lstore [(13, .long x9), (11, .long x7), (0, .ref (a 0)), (1, .int x1), (2, .int x2), (3, .int x3), (4, .int x4), (5, .int x5), (6, .int x6), (7, .long x7), (9, .long x9)] F dX7_fogs_226 (by decide) rfl ?_
        obtain ⟨n9, h⟩ := h
        exact z_lv [8, 9, 10, 1, 0] rfl (t228 n9 vm x6 x7 x9 x7 x9 h)
      · have h := h.2 c9
        refine z_lconst (v := 1) F dX7_fogs_105 rfl ?_
        refine z_lstore [(12, .long (1 : Int64)), (0, .ref (a 0)), (1, .int x1), (2, .int x2), (3, .int x3), (4, .int x4), (5, .int x5), (6, .int x6), (7, .long x7), (9, .long x9), (11, .int x11)] F dX7_fogs_106 (by decide) rfl ?_
        refine z_aload_n F dX7_fogs_108 rfl 1 rfl ?_
        refine z_callVv (fun u9 => w_Mo G a u9) F (mX7_asNow G a vm _ h) gX7_fogs_X7_asNow rfl hdX7_asNow ⟨rfl, rfl, Nat.le_of_ble_eq_true rfl, Nat.le_of_ble_eq_true rfl, Nat.le_of_ble_eq_true rfl, Nat.le_of_ble_eq_true rfl⟩ 0 rfl rfl [0, 1, 2, 3, 4, 5, 6, 7, 8, 9, 10, 11, 12, 13, 14, 15, 16] [] [0, 1, 2, 3, 4, 5, 6, 7, 8, 9, 10, 11, 12, 13, 14, 15, 16] rfl rfl (by decide) (fun _ => rfl) rfl (Nat.le_of_ble_eq_true rfl) dX7_fogs_109 (fun vm_9 h => ?_)
        refine z_iconst (v := 0) F dX7_fogs_112 rfl ?_
        refine z_istore [(14, .int (0 : Int32)), (12, .long (1 : Int64)), (0, .ref (a 0)), (1, .int x1), (2, .int x2), (3, .int x3), (4, .int x4), (5, .int x5), (6, .int x6), (7, .long x7), (9, .long x9), (11, .int x11)] F dX7_fogs_113 (by decide) rfl ?_
        obtain ⟨n9, h⟩ := h
        exact z_lv [2, 3, 4, 5, 6, 7, 8, 9, 10, 11, 1, 0] rfl (t115 K97 ih97 n9 vm_9 x1 x2 x3 x4 x5 x6 x7 x9 x11 (1 : Int64) (0 : Int32) h)
  have t74 : ∀ (n : Nat) (vm : Mo) (x1 : Int32) (x2 : Int32) (x3 : Int32) (x4 : Int32) (x5 : Int32) (x6 : Int32) (x7 : Int64) (x9 : Int64) (x11 : Int32), wpX7_fogs_L74 Q n vm x1 x2 x3 x4 x5 x6 x7 x9 x11 → Z E 17 0 0 (w_Mo G a vm) [(0, .ref (a 0)), (1, .int x1), (2, .int x2), (3, .int x3), (4, .int x4), (5, .int x5), (6, .int x6), (7, .long x7), (9, .long x9), (11, .int x11)] 74 [] := by
    intro n
    induction n with
    | zero => intro vm x1 x2 x3 x4 x5 x6 x7 x9 x11 h; exact h.elim
    | succ n ihQ =>
      have ih74 : ∀ (vm : Mo) (x1 : Int32) (x2 : Int32) (x3 : Int32) (x4 : Int32) (x5 : Int32) (x6 : Int32) (x7 : Int64) (x9 : Int64) (x11 : Int32), wpX7_fogs_L74 Q n vm x1 x2 x3 x4 x5 x6 x7 x9 x11 → Z E 17 0 0 (w_Mo G a vm) [(0, .ref (a 0)), (1, .int x1), (2, .int x2), (3, .int x3), (4, .int x4), (5, .int x5), (6, .int x6), (7, .long x7), (9, .long x9), (11, .int x11)] 74 [] := ihQ
      intro vm x1 x2 x3 x4 x5 x6 x7 x9 x11 h
      have h : wpX7_fogs_H74 Q (wpX7_fogs_L74 Q n) vm x1 x2 x3 x4 x5 x6 x7 x9 x11 := h
      generalize wpX7_fogs_L74 Q n = K74 at h ih74
      clear ihQ
      unfold wpX7_fogs_H74 at h
      refine z_iload F dX7_fogs_74 9 rfl ?_
      refine z_iload_n F dX7_fogs_76 rfl 2 rfl ?_
      refine z_icmp_ge 94 F dX7_fogs_77 (by decide) (fun c9 => ?_) (fun c9 => ?_)
      · have h := h.1 c9
        refine z_iconst (v := 0) F dX7_fogs_94 rfl ?_
        refine z_istore [(11, .int (0 : Int32)), (0, .ref (a 0)), (1, .int x1), (2, .int x2), (3, .int x3), (4, .int x4), (5, .int x5), (6, .int x6), (7, .long x7), (9, .long x9)] F dX7_fogs_95 (by decide) rfl ?_
        obtain ⟨n9, h⟩ := h
        exact z_lv [1, 2, 3, 4, 5, 6, 7, 8, 9, 0] rfl (t97 n9 vm x1 x2 x3 x4 x5 x6 x7 x9 (0 : Int32) h)
      · have h := h.2 c9
        refine z_lload F dX7_fogs_80 8 rfl ?_
        refine z_ldc2 (v := 10) F dX7_fogs_82 f1 ?_
        refine z_lmul F dX7_fogs_85 ?_
        refine z_topl (fun x9_7 e9 => ?_)
        have h := h x9_7 e9
        refine z_lstore [(9, .long x9_7), (0, .ref (a 0)), (1, .int x1), (2, .int x2), (3, .int x3), (4, .int x4), (5, .int x5), (6, .int x6), (7, .long x7), (11, .int x11)] F dX7_fogs_86 (by decide) rfl ?_
        obtain ⟨x11_8, e9⟩ : ∃ z : Int32, z = x11 + 1 := ⟨_, rfl⟩
        have h := h x11_8 e9
        refine z_iinc (v := x11_8) [(11, .int x11_8), (9, .long x9_7), (0, .ref (a 0)), (1, .int x1), (2, .int x2), (3, .int x3), (4, .int x4), (5, .int x5), (6, .int x6), (7, .long x7)] F dX7_fogs_88 9 rfl (by rw [e9]; rfl) (by decide) rfl ?_
        refine z_goto 74 F dX7_fogs_91 (by decide) ?_
        exact z_lv [2, 3, 4, 5, 6, 7, 8, 9, 1, 0] rfl (ih74 vm x1 x2 x3 x4 x5 x6 x7 x9_7 x11_8 h)
  unfold wpX7_fogs at h
  refine z_iload_n F dX7_fogs_0 rfl 1 rfl ?_
  refine z_iconst (v := 0) F dX7_fogs_1 rfl ?_
  refine z_iconst (v := 2) F dX7_fogs_2 rfl ?_
  refine z_callSi (fun _ => w_Mo G a vm) F (mX7_in G p1 (0 : Int32) (2 : Int32) _ h) gX7_fogs_X7_in rfl hdX7_in ⟨rfl, rfl, Nat.le_of_ble_eq_true rfl, Nat.le_of_ble_eq_true rfl, Nat.le_of_ble_eq_true rfl, Nat.le_of_ble_eq_true rfl⟩ [] [0, 1, 2, 3, 4, 5, 6, 7, 8, 9, 10, 11, 12, 13, 14, 15, 16] [0, 1, 2, 3, 4, 5, 6, 7, 8, 9, 10, 11, 12, 13, 14, 15, 16] rfl rfl (by decide) (fun _ => rfl) rfl (Nat.le_of_ble_eq_true rfl) dX7_fogs_3 (fun r_1 u9 h => ?_)
  refine z_if_eq 61 F dX7_fogs_6 (by decide) (fun c9 => ?_) (fun c9 => ?_)
  · have h := h.1 c9
    refine z_ldc2 (v := -1000000000000000002) F dX7_fogs_61 f0 ?_
    exact hret (-1000000000000000002 : Int64) vm _ _ h dX7_fogs_64
  · have h := h.2 c9
    refine z_iload_n F dX7_fogs_9 rfl 2 rfl ?_
    refine z_iconst (v := 0) F dX7_fogs_10 rfl ?_
    refine z_bipush (v := 8) F dX7_fogs_11 rfl ?_
    refine z_callSi (fun _ => w_Mo G a vm) F (mX7_in G p2 (0 : Int32) (8 : Int32) _ h) gX7_fogs_X7_in rfl hdX7_in ⟨rfl, rfl, Nat.le_of_ble_eq_true rfl, Nat.le_of_ble_eq_true rfl, Nat.le_of_ble_eq_true rfl, Nat.le_of_ble_eq_true rfl⟩ [] [0, 1, 2, 3, 4, 5, 6, 7, 8, 9, 10, 11, 12, 13, 14, 15, 16] [0, 1, 2, 3, 4, 5, 6, 7, 8, 9, 10, 11, 12, 13, 14, 15, 16] rfl rfl (by decide) (fun _ => rfl) rfl (Nat.le_of_ble_eq_true rfl) dX7_fogs_13 (fun r_2 u9 h => ?_)
    refine z_if_eq 61 F dX7_fogs_16 (by decide) (fun c9 => ?_) (fun c9 => ?_)
    · have h := h.1 c9
      refine z_ldc2 (v := -1000000000000000002) F dX7_fogs_61 f0 ?_
      exact hret (-1000000000000000002 : Int64) vm _ _ h dX7_fogs_64
    · have h := h.2 c9
      refine z_iload_n F dX7_fogs_19 rfl 3 rfl ?_
      refine z_iconst (v := 0) F dX7_fogs_20 rfl ?_
      refine z_bipush (v := 10) F dX7_fogs_21 rfl ?_
      refine z_callSi (fun _ => w_Mo G a vm) F (mX7_in G p3 (0 : Int32) (10 : Int32) _ h) gX7_fogs_X7_in rfl hdX7_in ⟨rfl, rfl, Nat.le_of_ble_eq_true rfl, Nat.le_of_ble_eq_true rfl, Nat.le_of_ble_eq_true rfl, Nat.le_of_ble_eq_true rfl⟩ [] [0, 1, 2, 3, 4, 5, 6, 7, 8, 9, 10, 11, 12, 13, 14, 15, 16] [0, 1, 2, 3, 4, 5, 6, 7, 8, 9, 10, 11, 12, 13, 14, 15, 16] rfl rfl (by decide) (fun _ => rfl) rfl (Nat.le_of_ble_eq_true rfl) dX7_fogs_23 (fun r_3 u9 h => ?_)
      refine z_if_eq 61 F dX7_fogs_26 (by decide) (fun c9 => ?_) (fun c9 => ?_)
      · have h := h.1 c9
        refine z_ldc2 (v := -1000000000000000002) F dX7_fogs_61 f0 ?_
        exact hret (-1000000000000000002 : Int64) vm _ _ h dX7_fogs_64
      · have h := h.2 c9
        refine z_iload F dX7_fogs_29 4 rfl ?_
        refine z_iconst (v := 0) F dX7_fogs_31 rfl ?_
        refine z_sipush (v := 999) F dX7_fogs_32 rfl ?_
        refine z_callSi (fun _ => w_Mo G a vm) F (mX7_in G p4 (0 : Int32) (999 : Int32) _ h) gX7_fogs_X7_in rfl hdX7_in ⟨rfl, rfl, Nat.le_of_ble_eq_true rfl, Nat.le_of_ble_eq_true rfl, Nat.le_of_ble_eq_true rfl, Nat.le_of_ble_eq_true rfl⟩ [] [0, 1, 2, 3, 4, 5, 6, 7, 8, 9, 10, 11, 12, 13, 14, 15, 16] [0, 1, 2, 3, 4, 5, 6, 7, 8, 9, 10, 11, 12, 13, 14, 15, 16] rfl rfl (by decide) (fun _ => rfl) rfl (Nat.le_of_ble_eq_true rfl) dX7_fogs_35 (fun r_4 u9 h => ?_)
        refine z_if_eq 61 F dX7_fogs_38 (by decide) (fun c9 => ?_) (fun c9 => ?_)
        · have h := h.1 c9
          refine z_ldc2 (v := -1000000000000000002) F dX7_fogs_61 f0 ?_
          exact hret (-1000000000000000002 : Int64) vm _ _ h dX7_fogs_64
        · have h := h.2 c9
          refine z_iload F dX7_fogs_41 5 rfl ?_
          refine z_iconst (v := 0) F dX7_fogs_43 rfl ?_
          refine z_iconst (v := 1) F dX7_fogs_44 rfl ?_
          refine z_callSi (fun _ => w_Mo G a vm) F (mX7_in G p5 (0 : Int32) (1 : Int32) _ h) gX7_fogs_X7_in rfl hdX7_in ⟨rfl, rfl, Nat.le_of_ble_eq_true rfl, Nat.le_of_ble_eq_true rfl, Nat.le_of_ble_eq_true rfl, Nat.le_of_ble_eq_true rfl⟩ [] [0, 1, 2, 3, 4, 5, 6, 7, 8, 9, 10, 11, 12, 13, 14, 15, 16] [0, 1, 2, 3, 4, 5, 6, 7, 8, 9, 10, 11, 12, 13, 14, 15, 16] rfl rfl (by decide) (fun _ => rfl) rfl (Nat.le_of_ble_eq_true rfl) dX7_fogs_45 (fun r_5 u9 h => ?_)
          refine z_if_eq 61 F dX7_fogs_48 (by decide) (fun c9 => ?_) (fun c9 => ?_)
          · have h := h.1 c9
            refine z_ldc2 (v := -1000000000000000002) F dX7_fogs_61 f0 ?_
            exact hret (-1000000000000000002 : Int64) vm _ _ h dX7_fogs_64
          · have h := h.2 c9
            refine z_iload F dX7_fogs_51 6 rfl ?_
            refine z_iconst (v := 0) F dX7_fogs_53 rfl ?_
            refine z_iconst (v := 1) F dX7_fogs_54 rfl ?_
            refine z_callSi (fun _ => w_Mo G a vm) F (mX7_in G p6 (0 : Int32) (1 : Int32) _ h) gX7_fogs_X7_in rfl hdX7_in ⟨rfl, rfl, Nat.le_of_ble_eq_true rfl, Nat.le_of_ble_eq_true rfl, Nat.le_of_ble_eq_true rfl, Nat.le_of_ble_eq_true rfl⟩ [] [0, 1, 2, 3, 4, 5, 6, 7, 8, 9, 10, 11, 12, 13, 14, 15, 16] [0, 1, 2, 3, 4, 5, 6, 7, 8, 9, 10, 11, 12, 13, 14, 15, 16] rfl rfl (by decide) (fun _ => rfl) rfl (Nat.le_of_ble_eq_true rfl) dX7_fogs_55 (fun r_6 u9 h => ?_)
            refine z_if_ne 65 F dX7_fogs_58 (by decide) (fun c9 => ?_) (fun c9 => ?_)
            · have h := h.1 c9
              refine z_lconst (v := 0) F dX7_fogs_65 rfl ?_
              refine z_lstore [(7, .long (0 : Int64)), (0, .ref (a 0)), (1, .int p1), (2, .int p2), (3, .int p3), (4, .int p4), (5, .int p5), (6, .int p6)] F dX7_fogs_66 (by decide) rfl ?_
              refine z_lconst (v := 1) F dX7_fogs_68 rfl ?_
              refine z_lstore [(9, .long (1 : Int64)), (7, .long (0 : Int64)), (0, .ref (a 0)), (1, .int p1), (2, .int p2), (3, .int p3), (4, .int p4), (5, .int p5), (6, .int p6)] F dX7_fogs_69 (by decide) rfl ?_
              refine z_iconst (v := 0) F dX7_fogs_71 rfl ?_
              refine z_istore [(11, .int (0 : Int32)), (9, .long (1 : Int64)), (7, .long (0 : Int64)), (0, .ref (a 0)), (1, .int p1), (2, .int p2), (3, .int p3), (4, .int p4), (5, .int p5), (6, .int p6)] F dX7_fogs_72 (by decide) rfl ?_
              obtain ⟨n9, h⟩ := h
              exact z_lv [3, 4, 5, 6, 7, 8, 9, 2, 1, 0] rfl (t74 n9 vm p1 p2 p3 p4 p5 p6 (0 : Int64) (1 : Int64) (0 : Int32) h)
            · have h := h.2 c9
              refine z_ldc2 (v := -1000000000000000002) F dX7_fogs_61 f0 ?_
              exact hret (-1000000000000000002 : Int64) vm _ _ h dX7_fogs_64
abbrev rmX7_isOverBy : Room := { frames := 2, cells := 0, slots := 0, locals := 43 }
set_option maxRecDepth 100000 in
set_option maxHeartbeats 4000000 in
theorem mX7_isOverBy (G : ZG) (a : Nat → Nat) (vm : Mo) (p1 : Int32) (Q : Int32 → Mo → Prop) (h : wpX7_isOverBy vm p1 Q) : ZMi G yX7_isOverBy wsX7_isOverBy rmX7_isOverBy [.ref (a 0), .int p1] (w_Mo G a vm) (fun vm : Mo => w_Mo G a vm) (Q) := by
  refine z_ofz (cc := cX7_isOverBy) (N := 3) (lv := [(0, .ref (a 0)), (1, .int p1)]) (by decide) rfl (Nat.le_of_ble_eq_true rfl) rfl (fun E F hret => ?_)
  have F : ZF E 3 cX7_isOverBy RX7 wsX7_isOverBy rmX7_isOverBy G := F
  have t25 : ∀ (K6 : Mo → Int32 → Int32 → Prop) (ih6 : ∀ (vm : Mo) (x1 : Int32) (x2 : Int32), K6 vm x1 x2 → Z E 3 0 0 (w_Mo G a vm) [(0, .ref (a 0)), (1, .int x1), (2, .int x2)] 6 []) (vm : Mo) (x1 : Int32) (x2 : Int32), wpX7_isOverBy_B25 Q K6 vm x1 x2 → Z E 3 0 0 (w_Mo G a vm) [(0, .ref (a 0)), (1, .int x1), (2, .int x2)] 25 [] := by
    intro K6 ih6 vm x1 x2 h
    unfold wpX7_isOverBy_B25 at h
    obtain ⟨x2_6, e9⟩ : ∃ z : Int32, z = x2 + 1 := ⟨_, rfl⟩
    have h := h x2_6 e9
    refine z_iinc (v := x2_6) [(2, .int x2_6), (0, .ref (a 0)), (1, .int x1)] F dX7_isOverBy_25 2 rfl (by rw [e9]; rfl) (by decide) rfl ?_
    refine z_goto 6 F dX7_isOverBy_28 (by decide) ?_
    exact z_lv [1, 2, 0] rfl (ih6 vm x1 x2_6 h)
  have t6 : ∀ (n : Nat) (vm : Mo) (x1 : Int32) (x2 : Int32), wpX7_isOverBy_L6 Q n vm x1 x2 → Z E 3 0 0 (w_Mo G a vm) [(0, .ref (a 0)), (1, .int x1), (2, .int x2)] 6 [] := by
    intro n
    induction n with
    | zero => intro vm x1 x2 h; exact h.elim
    | succ n ihQ =>
      have ih6 : ∀ (vm : Mo) (x1 : Int32) (x2 : Int32), wpX7_isOverBy_L6 Q n vm x1 x2 → Z E 3 0 0 (w_Mo G a vm) [(0, .ref (a 0)), (1, .int x1), (2, .int x2)] 6 [] := ihQ
      intro vm x1 x2 h
      have h : wpX7_isOverBy_H6 Q (wpX7_isOverBy_L6 Q n) vm x1 x2 := h
      generalize wpX7_isOverBy_L6 Q n = K6 at h ih6
      clear ihQ
      unfold wpX7_isOverBy_H6 at h
      refine z_iload_n F dX7_isOverBy_6 rfl 2 rfl ?_
      refine z_bipush (v := 6) F dX7_isOverBy_7 rfl ?_
      refine z_icmp_ge 31 F dX7_isOverBy_9 (by decide) (fun c9 => ?_) (fun c9 => ?_)
      · have h := h.1 c9
        refine z_aload_n F dX7_isOverBy_31 rfl 0 rfl ?_
        refine z_callVi (fun u9 => w_Mo G a u9) F (mX7_isOver G a vm _ h) gX7_isOverBy_X7_isOver rfl hdX7_isOver ⟨rfl, rfl, Nat.le_of_ble_eq_true rfl, Nat.le_of_ble_eq_true rfl, Nat.le_of_ble_eq_true rfl, Nat.le_of_ble_eq_true rfl⟩ 0 rfl rfl [0, 1, 2, 3, 4, 5, 6, 7, 8, 9, 10, 11, 12, 13, 14, 15, 16] [] [0, 1, 2, 3, 4, 5, 6, 7, 8, 9, 10, 11, 12, 13, 14, 15, 16] rfl rfl (by decide) (fun _ => rfl) rfl (Nat.le_of_ble_eq_true rfl) dX7_isOverBy_32 (fun r_2 vm_3 h => ?_)
        have h9 := h.1
        have h := h.2
        exact hret r_2 vm_3 _ _ h dX7_isOverBy_35 (zbz_n h9)
      · have h := h.2 c9
        refine z_iload_n F dX7_isOverBy_12 rfl 1 rfl ?_
        refine z_iload_n F dX7_isOverBy_13 rfl 2 rfl ?_
        refine z_callSi (fun _ => w_Mo G a vm) F (mX7_has G x1 x2 _ h) gX7_isOverBy_X7_has rfl hdX7_has ⟨rfl, rfl, Nat.le_of_ble_eq_true rfl, Nat.le_of_ble_eq_true rfl, Nat.le_of_ble_eq_true rfl, Nat.le_of_ble_eq_true rfl⟩ [] [0, 1, 2, 3, 4, 5, 6, 7, 8, 9, 10, 11, 12, 13, 14, 15, 16] [0, 1, 2, 3, 4, 5, 6, 7, 8, 9, 10, 11, 12, 13, 14, 15, 16] rfl rfl (by decide) (fun _ => rfl) rfl (Nat.le_of_ble_eq_true rfl) dX7_isOverBy_14 (fun r_4 u9 h => ?_)
        refine z_if_eq 25 F dX7_isOverBy_17 (by decide) (fun c9 => ?_) (fun c9 => ?_)
        · have h := h.1 c9
          exact z_lv [0, 1, 2] rfl (t25 K6 ih6 vm x1 x2 h)
        · have h := h.2 c9
          refine z_aload_n F dX7_isOverBy_20 rfl 0 rfl ?_
          refine z_iload_n F dX7_isOverBy_21 rfl 2 rfl ?_
          refine z_callVv (fun u9 => w_Mo G a u9) F (mX7_wear G a vm x2 _ h) gX7_isOverBy_X7_wear rfl hdX7_wear ⟨rfl, rfl, Nat.le_of_ble_eq_true rfl, Nat.le_of_ble_eq_true rfl, Nat.le_of_ble_eq_true rfl, Nat.le_of_ble_eq_true rfl⟩ 0 rfl rfl [0, 1, 2, 3, 4, 5, 6, 7, 8, 9, 10, 11, 12, 13, 14, 15, 16] [] [0, 1, 2, 3, 4, 5, 6, 7, 8, 9, 10, 11, 12, 13, 14, 15, 16] rfl rfl (by decide) (fun _ => rfl) rfl (Nat.le_of_ble_eq_true rfl) dX7_isOverBy_22 (fun vm_5 h => ?_)
          exact z_lv [0, 1, 2] rfl (t25 K6 ih6 vm_5 x1 x2 h)
  unfold wpX7_isOverBy at h
  refine z_aload_n F dX7_isOverBy_0 rfl 0 rfl ?_
  refine z_callVv (fun u9 => w_Mo G a u9) F (mX7_asNow G a vm _ h) gX7_isOverBy_X7_asNow rfl hdX7_asNow ⟨rfl, rfl, Nat.le_of_ble_eq_true rfl, Nat.le_of_ble_eq_true rfl, Nat.le_of_ble_eq_true rfl, Nat.le_of_ble_eq_true rfl⟩ 0 rfl rfl [0, 1, 2, 3, 4, 5, 6, 7, 8, 9, 10, 11, 12, 13, 14, 15, 16] [] [0, 1, 2, 3, 4, 5, 6, 7, 8, 9, 10, 11, 12, 13, 14, 15, 16] rfl rfl (by decide) (fun _ => rfl) rfl (Nat.le_of_ble_eq_true rfl) dX7_isOverBy_1 (fun vm_1 h => ?_)
  refine z_iconst (v := 0) F dX7_isOverBy_4 rfl ?_
  refine z_istore_n [(2, .int (0 : Int32)), (0, .ref (a 0)), (1, .int p1)] F dX7_isOverBy_5 rfl (by decide) rfl ?_
  obtain ⟨n9, h⟩ := h
  exact z_lv [1, 2, 0] rfl (t6 n9 vm_1 p1 (0 : Int32) h)
abbrev rmX7_turns : Room := { frames := 3, cells := 0, slots := 0, locals := 65 }
set_option maxRecDepth 100000 in
set_option maxHeartbeats 4000000 in
theorem mX7_turns (G : ZG) (a : Nat → Nat) (vm : Mo) (p1 : Int32) (p2 : Int32) (Q : Int32 → Mo → Prop) (h : wpX7_turns vm p1 p2 Q) : ZMi G yX7_turns wsX7_turns rmX7_turns [.ref (a 0), .int p1, .int p2] (w_Mo G a vm) (fun vm : Mo => w_Mo G a vm) (Q) := by
  refine z_ofi (cc := cX7_turns) (N := 8) (lv := [(0, .ref (a 0)), (1, .int p1), (2, .int p2)]) (by decide) rfl (Nat.le_of_ble_eq_true rfl) rfl (fun E F hret => ?_)
  have F : ZF E 8 cX7_turns RX7 wsX7_turns rmX7_turns G := F
  have f0 : ZW E (.fieldLink RX7 53 "ColourEchoModel" "value" "[I") := F.at 1 rfl
  have iX7 : ∀ x ∈ u_ws RX7 TX7 30, x ∈ wsX7_turns := fun _ h => List.mem_cons_of_mem _ (List.mem_append_right _ h)
  have t177 : ∀ (K31 : Mo → Int32 → Int32 → Int32 → Int32 → Prop) (K58 : Mo → Int32 → Int32 → Int32 → Int32 → Int32 → Prop) (ih31 : ∀ (vm : Mo) (x1 : Int32) (x2 : Int32) (x3 : Int32) (x4 : Int32), K31 vm x1 x2 x3 x4 → Z E 8 0 0 (w_Mo G a vm) [(0, .ref (a 0)), (1, .int x1), (2, .int x2), (3, .int x3), (4, .int x4)] 31 []) (ih58 : ∀ (vm : Mo) (x1 : Int32) (x2 : Int32) (x3 : Int32) (x4 : Int32) (x5 : Int32), K58 vm x1 x2 x3 x4 x5 → Z E 8 0 0 (w_Mo G a vm) [(0, .ref (a 0)), (1, .int x1), (2, .int x2), (3, .int x3), (4, .int x4), (5, .int x5)] 58 []) (vm : Mo) (x1 : Int32) (x2 : Int32) (x3 : Int32) (x4 : Int32) (x5 : Int32), wpX7_turns_B177 Q K31 K58 vm x1 x2 x3 x4 x5 → Z E 8 0 0 (w_Mo G a vm) [(0, .ref (a 0)), (1, .int x1), (2, .int x2), (3, .int x3), (4, .int x4), (5, .int x5)] 177 [] := by
    intro K31 K58 ih31 ih58 vm x1 x2 x3 x4 x5 h
    unfold wpX7_turns_B177 at h
    obtain ⟨x5_9, e9⟩ : ∃ z : Int32, z = x5 + (-1) := ⟨_, rfl⟩
    have h := h x5_9 e9
    refine z_iinc (v := x5_9) [(5, .int x5_9), (0, .ref (a 0)), (1, .int x1), (2, .int x2), (3, .int x3), (4, .int x4)] F dX7_turns_177 5 rfl (by rw [e9]; rfl) (by decide) rfl ?_
    refine z_goto 58 F dX7_turns_180 (by decide) ?_
    exact z_lv [1, 2, 3, 4, 5, 0] rfl (ih58 vm x1 x2 x3 x4 x5_9 h)
  have t176 : ∀ (K31 : Mo → Int32 → Int32 → Int32 → Int32 → Prop) (K58 : Mo → Int32 → Int32 → Int32 → Int32 → Int32 → Prop) (ih31 : ∀ (vm : Mo) (x1 : Int32) (x2 : Int32) (x3 : Int32) (x4 : Int32), K31 vm x1 x2 x3 x4 → Z E 8 0 0 (w_Mo G a vm) [(0, .ref (a 0)), (1, .int x1), (2, .int x2), (3, .int x3), (4, .int x4)] 31 []) (ih58 : ∀ (vm : Mo) (x1 : Int32) (x2 : Int32) (x3 : Int32) (x4 : Int32) (x5 : Int32), K58 vm x1 x2 x3 x4 x5 → Z E 8 0 0 (w_Mo G a vm) [(0, .ref (a 0)), (1, .int x1), (2, .int x2), (3, .int x3), (4, .int x4), (5, .int x5)] 58 []) (vm : Mo) (x1 : Int32) (x2 : Int32) (x3 : Int32) (x4 : Int32) (x5 : Int32) (s1 : Int32) (s2 : Int32), wpX7_turns_B176 Q K31 K58 vm x1 x2 x3 x4 x5 s1 s2 → Z E 8 0 0 (w_Mo G a vm) [(0, .ref (a 0)), (1, .int x1), (2, .int x2), (3, .int x3), (4, .int x4), (5, .int x5)] 176 [.int s2, .int s1, .ref (a 14)] := by
    intro K31 K58 ih31 ih58 vm x1 x2 x3 x4 x5 s1 s2 h
    unfold wpX7_turns_B176 at h
    have h9 := h.1
    have h := h.2
    refine z_iast (w_Mo G a (Mo_s_value vm (upd (Mo_value vm) (s1).toNatClampNeg s2))) F 14 rfl h9 rfl dX7_turns_176 ?_
    exact z_lv [0, 1, 2, 3, 4, 5] rfl (t177 K31 K58 ih31 ih58 (Mo_s_value vm (upd (Mo_value vm) (s1).toNatClampNeg s2)) x1 x2 x3 x4 x5 h)
  have t145 : ∀ (K31 : Mo → Int32 → Int32 → Int32 → Int32 → Prop) (K58 : Mo → Int32 → Int32 → Int32 → Int32 → Int32 → Prop) (ih31 : ∀ (vm : Mo) (x1 : Int32) (x2 : Int32) (x3 : Int32) (x4 : Int32), K31 vm x1 x2 x3 x4 → Z E 8 0 0 (w_Mo G a vm) [(0, .ref (a 0)), (1, .int x1), (2, .int x2), (3, .int x3), (4, .int x4)] 31 []) (ih58 : ∀ (vm : Mo) (x1 : Int32) (x2 : Int32) (x3 : Int32) (x4 : Int32) (x5 : Int32), K58 vm x1 x2 x3 x4 x5 → Z E 8 0 0 (w_Mo G a vm) [(0, .ref (a 0)), (1, .int x1), (2, .int x2), (3, .int x3), (4, .int x4), (5, .int x5)] 58 []) (vm : Mo) (x1 : Int32) (x2 : Int32) (x4 : Int32) (x5 : Int32) (x7 : Int32) (s0 : Int32), wpX7_turns_B145 Q K31 K58 vm x1 x2 x4 x5 x7 s0 → Z E 8 0 0 (w_Mo G a vm) [(0, .ref (a 0)), (1, .int x1), (2, .int x2), (4, .int x4), (5, .int x5), (7, .int x7)] 145 [.int s0] := by
    intro K31 K58 ih31 ih58 vm x1 x2 x4 x5 x7 s0 h
    unfold wpX7_turns_B145 at h
    refine z_istore_n [(3, .int s0), (0, .ref (a 0)), (1, .int x1), (2, .int x2), (4, .int x4), (5, .int x5), (7, .int x7)] F dX7_turns_145 rfl (by decide) rfl ?_
    refine z_aload_n F dX7_turns_146 rfl 1 rfl ?_
    refine z_get (ci := 7) F iX7 0 rfl rfl 27 (by decide) f0 rfl rfl dX7_turns_147 ?_
    refine z_iload F dX7_turns_150 4 rfl ?_
    refine z_iload F dX7_turns_152 6 rfl ?_
    refine z_aload_n F dX7_turns_154 rfl 1 rfl ?_
    refine z_get (ci := 7) F iX7 0 rfl rfl 27 (by decide) f0 rfl rfl dX7_turns_155 ?_
    refine z_iload F dX7_turns_158 4 rfl ?_
    have h9 := h.1
    have h := h.2
    refine z_iald F 14 rfl h9 dX7_turns_160 ?_
    refine z_icmp_le 169 F dX7_turns_161 (by decide) (fun c9 => ?_) (fun c9 => ?_)
    · have h := h.1 c9
      refine z_aload_n F dX7_turns_169 rfl 1 rfl ?_
      refine z_get (ci := 7) F iX7 0 rfl rfl 27 (by decide) f0 rfl rfl dX7_turns_170 ?_
      refine z_iload F dX7_turns_173 4 rfl ?_
      have h9 := h.1
      have h := h.2
      refine z_iald F 14 rfl h9 dX7_turns_175 ?_
      exact z_lv [1, 2, 3, 0, 4, 5] rfl (t176 K31 K58 ih31 ih58 vm x1 x2 s0 x4 x5 x4 ((Mo_value vm) (x4).toNatClampNeg) h)
    · have h := h.2 c9
      refine z_iload F dX7_turns_164 6 rfl ?_
      refine z_goto 176 F dX7_turns_166 (by decide) ?_
      exact z_lv [1, 2, 3, 0, 4, 5] rfl (t176 K31 K58 ih31 ih58 vm x1 x2 s0 x4 x5 x4 x7 h)
  have t144 : ∀ (K31 : Mo → Int32 → Int32 → Int32 → Int32 → Prop) (K58 : Mo → Int32 → Int32 → Int32 → Int32 → Int32 → Prop) (ih31 : ∀ (vm : Mo) (x1 : Int32) (x2 : Int32) (x3 : Int32) (x4 : Int32), K31 vm x1 x2 x3 x4 → Z E 8 0 0 (w_Mo G a vm) [(0, .ref (a 0)), (1, .int x1), (2, .int x2), (3, .int x3), (4, .int x4)] 31 []) (ih58 : ∀ (vm : Mo) (x1 : Int32) (x2 : Int32) (x3 : Int32) (x4 : Int32) (x5 : Int32), K58 vm x1 x2 x3 x4 x5 → Z E 8 0 0 (w_Mo G a vm) [(0, .ref (a 0)), (1, .int x1), (2, .int x2), (3, .int x3), (4, .int x4), (5, .int x5)] 58 []) (vm : Mo) (x1 : Int32) (x2 : Int32) (x3 : Int32) (x4 : Int32) (x5 : Int32) (x7 : Int32), wpX7_turns_B144 Q K31 K58 vm x1 x2 x3 x4 x5 x7 → Z E 8 0 0 (w_Mo G a vm) [(0, .ref (a 0)), (1, .int x1), (2, .int x2), (3, .int x3), (4, .int x4), (5, .int x5), (7, .int x7)] 144 [] := by
    intro K31 K58 ih31 ih58 vm x1 x2 x3 x4 x5 x7 h
    unfold wpX7_turns_B144 at h
    refine z_iload_n F dX7_turns_144 rfl 3 rfl ?_
    exact z_lv [0, 1, 2, 4, 5, 6] rfl (t145 K31 K58 ih31 ih58 vm x1 x2 x4 x5 x7 x3 h)
  have t121 : ∀ (K31 : Mo → Int32 → Int32 → Int32 → Int32 → Prop) (K58 : Mo → Int32 → Int32 → Int32 → Int32 → Int32 → Prop) (ih31 : ∀ (vm : Mo) (x1 : Int32) (x2 : Int32) (x3 : Int32) (x4 : Int32), K31 vm x1 x2 x3 x4 → Z E 8 0 0 (w_Mo G a vm) [(0, .ref (a 0)), (1, .int x1), (2, .int x2), (3, .int x3), (4, .int x4)] 31 []) (ih58 : ∀ (vm : Mo) (x1 : Int32) (x2 : Int32) (x3 : Int32) (x4 : Int32) (x5 : Int32), K58 vm x1 x2 x3 x4 x5 → Z E 8 0 0 (w_Mo G a vm) [(0, .ref (a 0)), (1, .int x1), (2, .int x2), (3, .int x3), (4, .int x4), (5, .int x5)] 58 []) (vm : Mo) (x1 : Int32) (x2 : Int32) (x3 : Int32) (x4 : Int32) (x5 : Int32) (s0 : Int32), wpX7_turns_B121 Q K31 K58 vm x1 x2 x3 x4 x5 s0 → Z E 8 0 0 (w_Mo G a vm) [(0, .ref (a 0)), (1, .int x1), (2, .int x2), (3, .int x3), (4, .int x4), (5, .int x5)] 121 [.int s0] := by
    intro K31 K58 ih31 ih58 vm x1 x2 x3 x4 x5 s0 h
    unfold wpX7_turns_B121 at h
    refine z_istore [(7, .int s0), (0, .ref (a 0)), (1, .int x1), (2, .int x2), (3, .int x3), (4, .int x4), (5, .int x5)] F dX7_turns_121 (by decide) rfl ?_
    refine z_iload F dX7_turns_123 5 rfl ?_
    refine z_if_ne 144 F dX7_turns_125 (by decide) (fun c9 => ?_) (fun c9 => ?_)
    · have h := h.1 c9
      exact z_lv [1, 2, 3, 4, 5, 6, 0] rfl (t144 K31 K58 ih31 ih58 vm x1 x2 x3 x4 x5 s0 h)
    · have h := h.2 c9
      refine z_iload F dX7_turns_128 0 rfl ?_
      refine z_aload_n F dX7_turns_130 rfl 1 rfl ?_
      refine z_get (ci := 7) F iX7 0 rfl rfl 27 (by decide) f0 rfl rfl dX7_turns_131 ?_
      refine z_iconst (v := 0) F dX7_turns_134 rfl ?_
      have h9 := h.1
      have h := h.2
      refine z_iald F 14 rfl h9 dX7_turns_135 ?_
      refine z_icmp_lt 144 F dX7_turns_136 (by decide) (fun c9 => ?_) (fun c9 => ?_)
      · have h := h.1 c9
        exact z_lv [1, 2, 3, 4, 5, 6, 0] rfl (t144 K31 K58 ih31 ih58 vm x1 x2 x3 x4 x5 s0 h)
      · have h := h.2 c9
        refine z_iload F dX7_turns_139 6 rfl ?_
        refine z_goto 145 F dX7_turns_141 (by decide) ?_
        exact z_lv [1, 2, 3, 5, 6, 0] rfl (t145 K31 K58 ih31 ih58 vm x1 x2 x4 x5 s0 x5 h)
  have t183 : ∀ (K31 : Mo → Int32 → Int32 → Int32 → Int32 → Prop) (ih31 : ∀ (vm : Mo) (x1 : Int32) (x2 : Int32) (x3 : Int32) (x4 : Int32), K31 vm x1 x2 x3 x4 → Z E 8 0 0 (w_Mo G a vm) [(0, .ref (a 0)), (1, .int x1), (2, .int x2), (3, .int x3), (4, .int x4)] 31 []) (vm : Mo) (x1 : Int32) (x2 : Int32) (x3 : Int32) (x4 : Int32), wpX7_turns_B183 Q K31 vm x1 x2 x3 x4 → Z E 8 0 0 (w_Mo G a vm) [(0, .ref (a 0)), (1, .int x1), (2, .int x2), (3, .int x3), (4, .int x4)] 183 [] := by
    intro K31 ih31 vm x1 x2 x3 x4 h
    unfold wpX7_turns_B183 at h
    obtain ⟨x4_8, e9⟩ : ∃ z : Int32, z = x4 + (-1) := ⟨_, rfl⟩
    have h := h x4_8 e9
    refine z_iinc (v := x4_8) [(4, .int x4_8), (0, .ref (a 0)), (1, .int x1), (2, .int x2), (3, .int x3)] F dX7_turns_183 4 rfl (by rw [e9]; rfl) (by decide) rfl ?_
    refine z_goto 31 F dX7_turns_186 (by decide) ?_
    exact z_lv [1, 2, 3, 4, 0] rfl (ih31 vm x1 x2 x3 x4_8 h)
  have t58 : ∀ (K31 : Mo → Int32 → Int32 → Int32 → Int32 → Prop) (ih31 : ∀ (vm : Mo) (x1 : Int32) (x2 : Int32) (x3 : Int32) (x4 : Int32), K31 vm x1 x2 x3 x4 → Z E 8 0 0 (w_Mo G a vm) [(0, .ref (a 0)), (1, .int x1), (2, .int x2), (3, .int x3), (4, .int x4)] 31 []) (n : Nat) (vm : Mo) (x1 : Int32) (x2 : Int32) (x3 : Int32) (x4 : Int32) (x5 : Int32), wpX7_turns_L58 Q K31 n vm x1 x2 x3 x4 x5 → Z E 8 0 0 (w_Mo G a vm) [(0, .ref (a 0)), (1, .int x1), (2, .int x2), (3, .int x3), (4, .int x4), (5, .int x5)] 58 [] := by
    intro K31 ih31 n
    induction n with
    | zero => intro vm x1 x2 x3 x4 x5 h; exact h.elim
    | succ n ihQ =>
      have ih58 : ∀ (vm : Mo) (x1 : Int32) (x2 : Int32) (x3 : Int32) (x4 : Int32) (x5 : Int32), wpX7_turns_L58 Q K31 n vm x1 x2 x3 x4 x5 → Z E 8 0 0 (w_Mo G a vm) [(0, .ref (a 0)), (1, .int x1), (2, .int x2), (3, .int x3), (4, .int x4), (5, .int x5)] 58 [] := ihQ
      intro vm x1 x2 x3 x4 x5 h
      have h : wpX7_turns_H58 Q K31 (wpX7_turns_L58 Q K31 n) vm x1 x2 x3 x4 x5 := h
      generalize wpX7_turns_L58 Q K31 n = K58 at h ih58
      clear ihQ
      unfold wpX7_turns_H58 at h
      refine z_iload F dX7_turns_58 5 rfl ?_
      refine z_if_lt 183 F dX7_turns_60 (by decide) (fun c9 => ?_) (fun c9 => ?_)
      · have h := h.1 c9
        exact z_lv [0, 1, 2, 3, 4] rfl (t183 K31 ih31 vm x1 x2 x3 x4 h)
      · have h := h.2 c9
        refine z_iload F dX7_turns_63 4 rfl ?_
        refine z_iload_n F dX7_turns_65 rfl 1 rfl ?_
        refine z_iconst (v := -1) F dX7_turns_66 rfl ?_
        refine z_ixor F dX7_turns_67 ?_
        refine z_iand F dX7_turns_68 ?_
        refine z_if_ne 183 F dX7_turns_69 (by decide) (fun c9 => ?_) (fun c9 => ?_)
        · have h := h.1 c9
          exact z_lv [0, 1, 2, 3, 4] rfl (t183 K31 ih31 vm x1 x2 x3 x4 h)
        · have h := h.2 c9
          refine z_iload_n F dX7_turns_72 rfl 1 rfl ?_
          refine z_iload F dX7_turns_73 5 rfl ?_
          refine z_callSi (fun _ => w_Mo G a vm) F (mX7_has G x1 x5 _ h) gX7_turns_X7_has rfl hdX7_has ⟨rfl, rfl, Nat.le_of_ble_eq_true rfl, Nat.le_of_ble_eq_true rfl, Nat.le_of_ble_eq_true rfl, Nat.le_of_ble_eq_true rfl⟩ [] [0, 1, 2, 3, 4, 5, 6, 7, 8, 9, 10, 11, 12, 13, 14, 15, 16] [0, 1, 2, 3, 4, 5, 6, 7, 8, 9, 10, 11, 12, 13, 14, 15, 16] rfl rfl (by decide) (fun _ => rfl) rfl (Nat.le_of_ble_eq_true rfl) dX7_turns_75 (fun r_3 u9 h => ?_)
          refine z_if_eq 177 F dX7_turns_78 (by decide) (fun c9 => ?_) (fun c9 => ?_)
          · have h := h.1 c9
            exact z_lv [0, 1, 2, 3, 4, 5] rfl (t177 K31 K58 ih31 ih58 vm x1 x2 x3 x4 x5 h)
          · have h := h.2 c9
            refine z_iload F dX7_turns_81 4 rfl ?_
            refine z_iload F dX7_turns_83 5 rfl ?_
            refine z_callSi (fun _ => w_Mo G a vm) F (mX7_has G x4 x5 _ h) gX7_turns_X7_has rfl hdX7_has ⟨rfl, rfl, Nat.le_of_ble_eq_true rfl, Nat.le_of_ble_eq_true rfl, Nat.le_of_ble_eq_true rfl, Nat.le_of_ble_eq_true rfl⟩ [] [0, 1, 2, 3, 4, 5, 6, 7, 8, 9, 10, 11, 12, 13, 14, 15, 16] [0, 1, 2, 3, 4, 5, 6, 7, 8, 9, 10, 11, 12, 13, 14, 15, 16] rfl rfl (by decide) (fun _ => rfl) rfl (Nat.le_of_ble_eq_true rfl) dX7_turns_85 (fun r_4 u9 h => ?_)
            refine z_if_ne 177 F dX7_turns_88 (by decide) (fun c9 => ?_) (fun c9 => ?_)
            · have h := h.1 c9
              exact z_lv [0, 1, 2, 3, 4, 5] rfl (t177 K31 K58 ih31 ih58 vm x1 x2 x3 x4 x5 h)
            · have h := h.2 c9
              refine z_iload F dX7_turns_91 4 rfl ?_
              refine z_iconst (v := 1) F dX7_turns_93 rfl ?_
              refine z_iload F dX7_turns_94 5 rfl ?_
              refine z_ishl F dX7_turns_96 ?_
              refine z_ior F dX7_turns_97 ?_
              refine z_topi (fun x6_5 e9 => ?_)
              have h := h x6_5 e9
              refine z_istore [(6, .int x6_5), (0, .ref (a 0)), (1, .int x1), (2, .int x2), (3, .int x3), (4, .int x4), (5, .int x5)] F dX7_turns_98 (by decide) rfl ?_
              refine z_aload_n F dX7_turns_100 rfl 1 rfl ?_
              refine z_iload F dX7_turns_101 0 rfl ?_
              refine z_callVi (fun u9 => w_Mo G a u9) F (mX7_isOverBy G a vm x6_5 _ h) gX7_turns_X7_isOverBy rfl hdX7_isOverBy ⟨rfl, rfl, Nat.le_of_ble_eq_true rfl, Nat.le_of_ble_eq_true rfl, Nat.le_of_ble_eq_true rfl, Nat.le_of_ble_eq_true rfl⟩ 0 rfl rfl [0, 1, 2, 3, 4, 5, 6, 7, 8, 9, 10, 11, 12, 13, 14, 15, 16] [] [0, 1, 2, 3, 4, 5, 6, 7, 8, 9, 10, 11, 12, 13, 14, 15, 16] rfl rfl (by decide) (fun _ => rfl) rfl (Nat.le_of_ble_eq_true rfl) dX7_turns_103 (fun r_6 vm_7 h => ?_)
              refine z_if_eq 113 F dX7_turns_106 (by decide) (fun c9 => ?_) (fun c9 => ?_)
              · have h := h.1 c9
                refine z_aload_n F dX7_turns_113 rfl 1 rfl ?_
                refine z_get (ci := 7) F iX7 0 rfl rfl 27 (by decide) f0 rfl rfl dX7_turns_114 ?_
                refine z_iload F dX7_turns_117 0 rfl ?_
                have h9 := h.1
                have h := h.2
                refine z_iald F 14 rfl h9 dX7_turns_119 ?_
                refine z_ineg F dX7_turns_120 ?_
                exact z_lv [1, 2, 3, 4, 5, 6] rfl (t121 K31 K58 ih31 ih58 vm_7 x1 x2 x3 x4 x5 (-((Mo_value vm_7) (x6_5).toNatClampNeg)) h)
              · have h := h.2 c9
                refine z_iconst (v := -1) F dX7_turns_109 rfl ?_
                refine z_goto 121 F dX7_turns_110 (by decide) ?_
                exact z_lv [1, 2, 3, 4, 5, 6] rfl (t121 K31 K58 ih31 ih58 vm_7 x1 x2 x3 x4 x5 (-1 : Int32) h)
  have t54 : ∀ (K31 : Mo → Int32 → Int32 → Int32 → Int32 → Prop) (ih31 : ∀ (vm : Mo) (x1 : Int32) (x2 : Int32) (x3 : Int32) (x4 : Int32), K31 vm x1 x2 x3 x4 → Z E 8 0 0 (w_Mo G a vm) [(0, .ref (a 0)), (1, .int x1), (2, .int x2), (3, .int x3), (4, .int x4)] 31 []) (vm : Mo) (x1 : Int32) (x2 : Int32) (x3 : Int32) (x4 : Int32) (s1 : Int32) (s2 : Int32), wpX7_turns_B54 Q K31 vm x1 x2 x3 x4 s1 s2 → Z E 8 0 0 (w_Mo G a vm) [(0, .ref (a 0)), (1, .int x1), (2, .int x2), (3, .int x3), (4, .int x4)] 54 [.int s2, .int s1, .ref (a 14)] := by
    intro K31 ih31 vm x1 x2 x3 x4 s1 s2 h
    unfold wpX7_turns_B54 at h
    have h9 := h.1
    have h := h.2
    refine z_iast (w_Mo G a (Mo_s_value vm (upd (Mo_value vm) (s1).toNatClampNeg s2))) F 14 rfl h9 rfl dX7_turns_54 ?_
    refine z_iconst (v := 5) F dX7_turns_55 rfl ?_
    refine z_istore [(5, .int (5 : Int32)), (0, .ref (a 0)), (1, .int x1), (2, .int x2), (3, .int x3), (4, .int x4)] F dX7_turns_56 (by decide) rfl ?_
    obtain ⟨n9, h⟩ := h
    exact z_lv [1, 2, 3, 4, 5, 0] rfl (t58 K31 ih31 n9 (Mo_s_value vm (upd (Mo_value vm) (s1).toNatClampNeg s2)) x1 x2 x3 x4 (5 : Int32) h)
  have t31 : ∀ (n : Nat) (vm : Mo) (x1 : Int32) (x2 : Int32) (x3 : Int32) (x4 : Int32), wpX7_turns_L31 Q n vm x1 x2 x3 x4 → Z E 8 0 0 (w_Mo G a vm) [(0, .ref (a 0)), (1, .int x1), (2, .int x2), (3, .int x3), (4, .int x4)] 31 [] := by
    intro n
    induction n with
    | zero => intro vm x1 x2 x3 x4 h; exact h.elim
    | succ n ihQ =>
      have ih31 : ∀ (vm : Mo) (x1 : Int32) (x2 : Int32) (x3 : Int32) (x4 : Int32), wpX7_turns_L31 Q n vm x1 x2 x3 x4 → Z E 8 0 0 (w_Mo G a vm) [(0, .ref (a 0)), (1, .int x1), (2, .int x2), (3, .int x3), (4, .int x4)] 31 [] := ihQ
      intro vm x1 x2 x3 x4 h
      have h : wpX7_turns_H31 Q (wpX7_turns_L31 Q n) vm x1 x2 x3 x4 := h
      generalize wpX7_turns_L31 Q n = K31 at h ih31
      clear ihQ
      unfold wpX7_turns_H31 at h
      refine z_iload F dX7_turns_31 4 rfl ?_
      refine z_if_lt 189 F dX7_turns_33 (by decide) (fun c9 => ?_) (fun c9 => ?_)
      · have h := h.1 c9
        refine z_iload_n F dX7_turns_189 rfl 2 rfl ?_
        refine z_iconst (v := 1) F dX7_turns_190 rfl ?_
        refine z_icmp_ne 210 F dX7_turns_191 (by decide) (fun c9 => ?_) (fun c9 => ?_)
        · have h := h.1 c9
          refine z_aload_n F dX7_turns_210 rfl 0 rfl ?_
          refine z_get (ci := 7) F iX7 0 rfl rfl 27 (by decide) f0 rfl rfl dX7_turns_211 ?_
          refine z_iconst (v := 0) F dX7_turns_214 rfl ?_
          have h9 := h.1
          have h := h.2
          refine z_iald F 14 rfl h9 dX7_turns_215 ?_
          refine z_if_ne 224 F dX7_turns_216 (by decide) (fun c9 => ?_) (fun c9 => ?_)
          · have h := h.1 c9
            refine z_aload_n F dX7_turns_224 rfl 0 rfl ?_
            refine z_get (ci := 7) F iX7 0 rfl rfl 27 (by decide) f0 rfl rfl dX7_turns_225 ?_
            refine z_iconst (v := 0) F dX7_turns_228 rfl ?_
            have h9 := h.1
            have h := h.2
            refine z_iald F 14 rfl h9 dX7_turns_229 ?_
            refine z_if_le 237 F dX7_turns_230 (by decide) (fun c9 => ?_) (fun c9 => ?_)
            · have h := h.1 c9
              refine z_iconst (v := 1) F dX7_turns_237 rfl ?_
              exact hret (1 : Int32) vm _ _ h dX7_turns_238
            · have h := h.2 c9
              refine z_iconst (v := 0) F dX7_turns_233 rfl ?_
              refine z_goto 238 F dX7_turns_234 (by decide) ?_
              exact hret (0 : Int32) vm _ _ h dX7_turns_238
          · have h := h.2 c9
            refine z_bipush (v := -6) F dX7_turns_219 rfl ?_
            refine z_goto 238 F dX7_turns_221 (by decide) ?_
            exact hret (-6 : Int32) vm _ _ h dX7_turns_238
        · have h := h.2 c9
          refine z_aload_n F dX7_turns_194 rfl 0 rfl ?_
          refine z_get (ci := 7) F iX7 0 rfl rfl 27 (by decide) f0 rfl rfl dX7_turns_195 ?_
          refine z_iconst (v := 0) F dX7_turns_198 rfl ?_
          have h9 := h.1
          have h := h.2
          refine z_iald F 14 rfl h9 dX7_turns_199 ?_
          refine z_if_ge 208 F dX7_turns_200 (by decide) (fun c9 => ?_) (fun c9 => ?_)
          · have h := h.1 c9
            refine z_iload_n F dX7_turns_208 rfl 3 rfl ?_
            exact hret x3 vm _ _ h dX7_turns_209
          · have h := h.2 c9
            refine z_bipush (v := -6) F dX7_turns_203 rfl ?_
            refine z_goto 209 F dX7_turns_205 (by decide) ?_
            exact hret (-6 : Int32) vm _ _ h dX7_turns_209
      · have h := h.2 c9
        refine z_aload_n F dX7_turns_36 rfl 0 rfl ?_
        refine z_get (ci := 7) F iX7 0 rfl rfl 27 (by decide) f0 rfl rfl dX7_turns_37 ?_
        refine z_iload F dX7_turns_40 4 rfl ?_
        refine z_iload F dX7_turns_42 4 rfl ?_
        refine z_iload_n F dX7_turns_44 rfl 1 rfl ?_
        refine z_icmp_ne 52 F dX7_turns_45 (by decide) (fun c9 => ?_) (fun c9 => ?_)
        · have h := h.1 c9
          refine z_bipush (v := -2) F dX7_turns_52 rfl ?_
          exact z_lv [0, 1, 2, 3, 4] rfl (t54 K31 ih31 vm x1 x2 x3 x4 x4 (-2 : Int32) h)
        · have h := h.2 c9
          refine z_iconst (v := 0) F dX7_turns_48 rfl ?_
          refine z_goto 54 F dX7_turns_49 (by decide) ?_
          exact z_lv [0, 1, 2, 3, 4] rfl (t54 K31 ih31 vm x1 x2 x3 x4 x4 (0 : Int32) h)
  unfold wpX7_turns at h
  refine z_iload_n F dX7_turns_0 rfl 1 rfl ?_
  refine z_iconst (v := 0) F dX7_turns_1 rfl ?_
  refine z_bipush (v := 63) F dX7_turns_2 rfl ?_
  refine z_callSi (fun _ => w_Mo G a vm) F (mX7_in G p1 (0 : Int32) (63 : Int32) _ h) gX7_turns_X7_in rfl hdX7_in ⟨rfl, rfl, Nat.le_of_ble_eq_true rfl, Nat.le_of_ble_eq_true rfl, Nat.le_of_ble_eq_true rfl, Nat.le_of_ble_eq_true rfl⟩ [] [0, 1, 2, 3, 4, 5, 6, 7, 8, 9, 10, 11, 12, 13, 14, 15, 16] [0, 1, 2, 3, 4, 5, 6, 7, 8, 9, 10, 11, 12, 13, 14, 15, 16] rfl rfl (by decide) (fun _ => rfl) rfl (Nat.le_of_ble_eq_true rfl) dX7_turns_4 (fun r_1 u9 h => ?_)
  refine z_if_ne 12 F dX7_turns_7 (by decide) (fun c9 => ?_) (fun c9 => ?_)
  · have h := h.1 c9
    refine z_iload_n F dX7_turns_12 rfl 2 rfl ?_
    refine z_iconst (v := 0) F dX7_turns_13 rfl ?_
    refine z_iconst (v := 1) F dX7_turns_14 rfl ?_
    refine z_callSi (fun _ => w_Mo G a vm) F (mX7_in G p2 (0 : Int32) (1 : Int32) _ h) gX7_turns_X7_in rfl hdX7_in ⟨rfl, rfl, Nat.le_of_ble_eq_true rfl, Nat.le_of_ble_eq_true rfl, Nat.le_of_ble_eq_true rfl, Nat.le_of_ble_eq_true rfl⟩ [] [0, 1, 2, 3, 4, 5, 6, 7, 8, 9, 10, 11, 12, 13, 14, 15, 16] [0, 1, 2, 3, 4, 5, 6, 7, 8, 9, 10, 11, 12, 13, 14, 15, 16] rfl rfl (by decide) (fun _ => rfl) rfl (Nat.le_of_ble_eq_true rfl) dX7_turns_15 (fun r_2 u9 h => ?_)
    refine z_if_ne 24 F dX7_turns_18 (by decide) (fun c9 => ?_) (fun c9 => ?_)
    · have h := h.1 c9
      refine z_bipush (v := -6) F dX7_turns_24 rfl ?_
      refine z_istore_n [(3, .int (-6 : Int32)), (0, .ref (a 0)), (1, .int p1), (2, .int p2)] F dX7_turns_26 rfl (by decide) rfl ?_
      refine z_bipush (v := 63) F dX7_turns_27 rfl ?_
      refine z_istore [(4, .int (63 : Int32)), (3, .int (-6 : Int32)), (0, .ref (a 0)), (1, .int p1), (2, .int p2)] F dX7_turns_29 (by decide) rfl ?_
      obtain ⟨n9, h⟩ := h
      exact z_lv [2, 3, 4, 1, 0] rfl (t31 n9 vm p1 p2 (-6 : Int32) (63 : Int32) h)
    · have h := h.2 c9
      refine z_bipush (v := -2) F dX7_turns_21 rfl ?_
      exact hret (-2 : Int32) vm _ _ h dX7_turns_23
  · have h := h.2 c9
    refine z_iconst (v := -1) F dX7_turns_10 rfl ?_
    exact hret (-1 : Int32) vm _ _ h dX7_turns_11
abbrev rmX7_year : Room := { frames := 2, cells := 0, slots := 0, locals := 49 }
set_option maxRecDepth 100000 in
set_option maxHeartbeats 4000000 in
theorem mX7_year (G : ZG) (a : Nat → Nat) (vm : Mo) (p1 : Int32) (p2 : Int32) (p3 : Int32) (Q : Int32 → Mo → Prop) (h : wpX7_year vm p1 p2 p3 Q) : ZMi G yX7_year wsX7_year rmX7_year [.ref (a 0), .int p1, .int p2, .int p3] (w_Mo G a vm) (fun vm : Mo => w_Mo G a vm) (Q) := by
  refine z_ofi (cc := cX7_year) (N := 9) (lv := [(0, .ref (a 0)), (1, .int p1), (2, .int p2), (3, .int p3)]) (by decide) rfl (Nat.le_of_ble_eq_true rfl) rfl (fun E F hret => ?_)
  have F : ZF E 9 cX7_year RX7 wsX7_year rmX7_year G := F
  have f0 : ZW E (.constant RX7 189 (65537)) := F.at 1 rfl
  have f1 : ZW E (.fieldLink RX7 81 "ColourEchoModel" "fogNow" "I") := F.at 2 rfl
  have f2 : ZW E (.fieldLink RX7 87 "ColourEchoModel" "snowNow" "I") := F.at 3 rfl
  have f3 : ZW E (.fieldLink RX7 35 "ColourEchoModel" "shown" "[I") := F.at 4 rfl
  have iX7 : ∀ x ∈ u_ws RX7 TX7 30, x ∈ wsX7_year := fun _ h => List.mem_cons_of_mem _ (List.mem_append_right _ h)
  have t174 : ∀ (K49 : Mo → Int32 → Int32 → Int32 → Int32 → Int32 → Int32 → Prop) (K146 : Mo → Int32 → Int32 → Int32 → Int32 → Int32 → Int32 → Int32 → Prop) (ih49 : ∀ (vm : Mo) (x2 : Int32) (x3 : Int32) (x4 : Int32) (x5 : Int32) (x6 : Int32) (x7 : Int32), K49 vm x2 x3 x4 x5 x6 x7 → Z E 9 0 0 (w_Mo G a vm) [(0, .ref (a 0)), (2, .int x2), (3, .int x3), (4, .int x4), (5, .int x5), (6, .int x6), (7, .int x7)] 49 []) (ih146 : ∀ (vm : Mo) (x2 : Int32) (x3 : Int32) (x4 : Int32) (x5 : Int32) (x6 : Int32) (x7 : Int32) (x8 : Int32), K146 vm x2 x3 x4 x5 x6 x7 x8 → Z E 9 0 0 (w_Mo G a vm) [(0, .ref (a 0)), (2, .int x2), (3, .int x3), (4, .int x4), (5, .int x5), (6, .int x6), (7, .int x7), (8, .int x8)] 146 []) (vm : Mo) (x2 : Int32) (x3 : Int32) (x4 : Int32) (x5 : Int32) (x7 : Int32) (x8 : Int32) (s0 : Int32), wpX7_year_B174 Q K49 K146 vm x2 x3 x4 x5 x7 x8 s0 → Z E 9 0 0 (w_Mo G a vm) [(0, .ref (a 0)), (2, .int x2), (3, .int x3), (4, .int x4), (5, .int x5), (7, .int x7), (8, .int x8)] 174 [.int s0] := by
    intro K49 K146 ih49 ih146 vm x2 x3 x4 x5 x7 x8 s0 h
    unfold wpX7_year_B174 at h
    refine z_istore [(6, .int s0), (0, .ref (a 0)), (2, .int x2), (3, .int x3), (4, .int x4), (5, .int x5), (7, .int x7), (8, .int x8)] F dX7_year_174 (by decide) rfl ?_
    obtain ⟨x8_17, e9⟩ : ∃ z : Int32, z = x8 + 1 := ⟨_, rfl⟩
    have h := h x8_17 e9
    refine z_iinc (v := x8_17) [(8, .int x8_17), (6, .int s0), (0, .ref (a 0)), (2, .int x2), (3, .int x3), (4, .int x4), (5, .int x5), (7, .int x7)] F dX7_year_176 7 rfl (by rw [e9]; rfl) (by decide) rfl ?_
    refine z_goto 146 F dX7_year_179 (by decide) ?_
    exact z_lv [2, 3, 4, 5, 6, 1, 7, 0] rfl (ih146 vm x2 x3 x4 x5 s0 x7 x8_17 h)
  have t146 : ∀ (K49 : Mo → Int32 → Int32 → Int32 → Int32 → Int32 → Int32 → Prop) (ih49 : ∀ (vm : Mo) (x2 : Int32) (x3 : Int32) (x4 : Int32) (x5 : Int32) (x6 : Int32) (x7 : Int32), K49 vm x2 x3 x4 x5 x6 x7 → Z E 9 0 0 (w_Mo G a vm) [(0, .ref (a 0)), (2, .int x2), (3, .int x3), (4, .int x4), (5, .int x5), (6, .int x6), (7, .int x7)] 49 []) (n : Nat) (vm : Mo) (x2 : Int32) (x3 : Int32) (x4 : Int32) (x5 : Int32) (x6 : Int32) (x7 : Int32) (x8 : Int32), wpX7_year_L146 Q K49 n vm x2 x3 x4 x5 x6 x7 x8 → Z E 9 0 0 (w_Mo G a vm) [(0, .ref (a 0)), (2, .int x2), (3, .int x3), (4, .int x4), (5, .int x5), (6, .int x6), (7, .int x7), (8, .int x8)] 146 [] := by
    intro K49 ih49 n
    induction n with
    | zero => intro vm x2 x3 x4 x5 x6 x7 x8 h; exact h.elim
    | succ n ihQ =>
      have ih146 : ∀ (vm : Mo) (x2 : Int32) (x3 : Int32) (x4 : Int32) (x5 : Int32) (x6 : Int32) (x7 : Int32) (x8 : Int32), wpX7_year_L146 Q K49 n vm x2 x3 x4 x5 x6 x7 x8 → Z E 9 0 0 (w_Mo G a vm) [(0, .ref (a 0)), (2, .int x2), (3, .int x3), (4, .int x4), (5, .int x5), (6, .int x6), (7, .int x7), (8, .int x8)] 146 [] := ihQ
      intro vm x2 x3 x4 x5 x6 x7 x8 h
      have h : wpX7_year_H146 Q K49 (wpX7_year_L146 Q K49 n) vm x2 x3 x4 x5 x6 x7 x8 := h
      generalize wpX7_year_L146 Q K49 n = K146 at h ih146
      clear ihQ
      unfold wpX7_year_H146 at h
      refine z_iload F dX7_year_146 7 rfl ?_
      refine z_iconst (v := 3) F dX7_year_148 rfl ?_
      refine z_icmp_ge 182 F dX7_year_149 (by decide) (fun c9 => ?_) (fun c9 => ?_)
      · have h := h.1 c9
        obtain ⟨x7_12, e9⟩ : ∃ z : Int32, z = x7 + 1 := ⟨_, rfl⟩
        have h := h x7_12 e9
        refine z_iinc (v := x7_12) [(7, .int x7_12), (0, .ref (a 0)), (2, .int x2), (3, .int x3), (4, .int x4), (5, .int x5), (6, .int x6), (8, .int x8)] F dX7_year_182 6 rfl (by rw [e9]; rfl) (by decide) rfl ?_
        refine z_goto 49 F dX7_year_185 (by decide) ?_
        exact z_lv [1, 2, 3, 4, 5, 6, 0] rfl (ih49 vm x2 x3 x4 x5 x6 x7_12 h)
      · have h := h.2 c9
        refine z_aload_n F dX7_year_152 rfl 0 rfl ?_
        refine z_iload F dX7_year_153 7 rfl ?_
        refine z_callVi (fun u9 => w_Mo G a u9) F (mX7_see G a vm x8 _ h) gX7_year_X7_see rfl hdX7_see ⟨rfl, rfl, Nat.le_of_ble_eq_true rfl, Nat.le_of_ble_eq_true rfl, Nat.le_of_ble_eq_true rfl, Nat.le_of_ble_eq_true rfl⟩ 0 rfl rfl [0, 1, 2, 3, 4, 5, 6, 7, 8, 9, 10, 11, 12, 13, 14, 15, 16] [] [0, 1, 2, 3, 4, 5, 6, 7, 8, 9, 10, 11, 12, 13, 14, 15, 16] rfl rfl (by decide) (fun _ => rfl) rfl (Nat.le_of_ble_eq_true rfl) dX7_year_155 (fun r_13 vm_14 h => ?_)
        refine z_iload F dX7_year_158 5 rfl ?_
        refine z_icmp_le 172 F dX7_year_160 (by decide) (fun c9 => ?_) (fun c9 => ?_)
        · have h := h.1 c9
          refine z_iload F dX7_year_172 5 rfl ?_
          exact z_lv [0, 1, 2, 3, 4, 6, 7] rfl (t174 K49 K146 ih49 ih146 vm_14 x2 x3 x4 x5 x7 x8 x6 h)
        · have h := h.2 c9
          refine z_aload_n F dX7_year_163 rfl 0 rfl ?_
          refine z_iload F dX7_year_164 7 rfl ?_
          refine z_callVi (fun u9 => w_Mo G a u9) F (mX7_see G a vm_14 x8 _ h) gX7_year_X7_see rfl hdX7_see ⟨rfl, rfl, Nat.le_of_ble_eq_true rfl, Nat.le_of_ble_eq_true rfl, Nat.le_of_ble_eq_true rfl, Nat.le_of_ble_eq_true rfl⟩ 0 rfl rfl [0, 1, 2, 3, 4, 5, 6, 7, 8, 9, 10, 11, 12, 13, 14, 15, 16] [] [0, 1, 2, 3, 4, 5, 6, 7, 8, 9, 10, 11, 12, 13, 14, 15, 16] rfl rfl (by decide) (fun _ => rfl) rfl (Nat.le_of_ble_eq_true rfl) dX7_year_166 (fun r_15 vm_16 h => ?_)
          refine z_goto 174 F dX7_year_169 (by decide) ?_
          exact z_lv [0, 1, 2, 3, 4, 6, 7] rfl (t174 K49 K146 ih49 ih146 vm_16 x2 x3 x4 x5 x7 x8 r_15 h)
  have t140 : ∀ (K49 : Mo → Int32 → Int32 → Int32 → Int32 → Int32 → Int32 → Prop) (ih49 : ∀ (vm : Mo) (x2 : Int32) (x3 : Int32) (x4 : Int32) (x5 : Int32) (x6 : Int32) (x7 : Int32), K49 vm x2 x3 x4 x5 x6 x7 → Z E 9 0 0 (w_Mo G a vm) [(0, .ref (a 0)), (2, .int x2), (3, .int x3), (4, .int x4), (5, .int x5), (6, .int x6), (7, .int x7)] 49 []) (vm : Mo) (x2 : Int32) (x3 : Int32) (x4 : Int32) (x6 : Int32) (x7 : Int32) (s0 : Int32) (s1 : Int32), wpX7_year_B140 Q K49 vm x2 x3 x4 x6 x7 s0 s1 → Z E 9 0 0 (w_Mo G a vm) [(0, .ref (a 0)), (2, .int x2), (3, .int x3), (4, .int x4), (6, .int x6), (7, .int x7)] 140 [.int s1, .int s0] := by
    intro K49 ih49 vm x2 x3 x4 x6 x7 s0 s1 h
    unfold wpX7_year_B140 at h
    refine z_iadd F dX7_year_140 ?_
    refine z_topi (fun x5_11 e9 => ?_)
    have h := h x5_11 e9
    refine z_istore [(5, .int x5_11), (0, .ref (a 0)), (2, .int x2), (3, .int x3), (4, .int x4), (6, .int x6), (7, .int x7)] F dX7_year_141 (by decide) rfl ?_
    refine z_iconst (v := 0) F dX7_year_143 rfl ?_
    refine z_istore [(8, .int (0 : Int32)), (5, .int x5_11), (0, .ref (a 0)), (2, .int x2), (3, .int x3), (4, .int x4), (6, .int x6), (7, .int x7)] F dX7_year_144 (by decide) rfl ?_
    obtain ⟨n9, h⟩ := h
    exact z_lv [2, 3, 4, 5, 1, 6, 7, 0] rfl (t146 K49 ih49 n9 vm x2 x3 x4 x5_11 x6 x7 (0 : Int32) h)
  have t103 : ∀ (K49 : Mo → Int32 → Int32 → Int32 → Int32 → Int32 → Int32 → Prop) (ih49 : ∀ (vm : Mo) (x2 : Int32) (x3 : Int32) (x4 : Int32) (x5 : Int32) (x6 : Int32) (x7 : Int32), K49 vm x2 x3 x4 x5 x6 x7 → Z E 9 0 0 (w_Mo G a vm) [(0, .ref (a 0)), (2, .int x2), (3, .int x3), (4, .int x4), (5, .int x5), (6, .int x6), (7, .int x7)] 49 []) (vm : Mo) (x2 : Int32) (x3 : Int32) (x4 : Int32) (x5 : Int32) (x6 : Int32) (x7 : Int32) (s1 : Int32), wpX7_year_B103 Q K49 vm x2 x3 x4 x5 x6 x7 s1 → Z E 9 0 0 (w_Mo G a vm) [(0, .ref (a 0)), (2, .int x2), (3, .int x3), (4, .int x4), (5, .int x5), (6, .int x6), (7, .int x7)] 103 [.int s1, .ref (a 0)] := by
    intro K49 ih49 vm x2 x3 x4 x5 x6 x7 s1 h
    unfold wpX7_year_B103 at h
    refine z_put (ci := 7) (ty := .int) (w_Mo G a (Mo_s_snowNow vm s1)) F iX7 tyX7 tyX7_ok nmX7 0 rfl rfl 18 (by decide) f2 rfl rfl rfl rfl rfl (Nat.le_of_ble_eq_true rfl) rfl dX7_year_103 ?_
    refine z_aload_n F dX7_year_106 rfl 0 rfl ?_
    refine z_get (ci := 7) F iX7 0 rfl rfl 14 (by decide) f3 rfl rfl dX7_year_107 ?_
    refine z_iload F dX7_year_110 3 rfl ?_
    refine z_iconst (v := 3) F dX7_year_112 rfl ?_
    refine z_irem F dX7_year_113 (by decide) ?_
    refine z_dup2 F dX7_year_114 rfl rfl ?_
    have h9 := h.1
    have h := h.2
    refine z_iald (f := (Mo_shown vm)) F 8 rfl h9 dX7_year_115 ?_
    refine z_iload F dX7_year_116 3 rfl ?_
    refine z_bipush (v := 7) F dX7_year_118 rfl ?_
    refine z_idiv F dX7_year_120 (by decide) ?_
    refine z_bipush (v := 100) F dX7_year_121 rfl ?_
    refine z_irem F dX7_year_123 (by decide) ?_
    refine z_iadd F dX7_year_124 ?_
    have h9 := h.1
    have h := h.2
    refine z_iast (f := (Mo_shown vm)) (w_Mo G a (Mo_s_shown (Mo_s_snowNow vm s1) (upd (Mo_shown vm) ((x4 - x4 / (3 : Int32) * (3 : Int32))).toNatClampNeg (((Mo_shown vm) ((x4 - x4 / (3 : Int32) * (3 : Int32))).toNatClampNeg) + ((x4 / (7 : Int32)) - (x4 / (7 : Int32)) / (100 : Int32) * (100 : Int32)))))) F 8 rfl h9 rfl dX7_year_125 ?_
    refine z_iload F dX7_year_126 4 rfl ?_
    refine z_aload_n F dX7_year_128 rfl 0 rfl ?_
    refine z_callVi (fun u9 => w_Mo G a u9) F (mX7_isOver G a (Mo_s_shown (Mo_s_snowNow vm s1) (upd (Mo_shown vm) ((x4 - x4 / (3 : Int32) * (3 : Int32))).toNatClampNeg (((Mo_shown vm) ((x4 - x4 / (3 : Int32) * (3 : Int32))).toNatClampNeg) + ((x4 / (7 : Int32)) - (x4 / (7 : Int32)) / (100 : Int32) * (100 : Int32))))) _ h) gX7_year_X7_isOver rfl hdX7_isOver ⟨rfl, rfl, Nat.le_of_ble_eq_true rfl, Nat.le_of_ble_eq_true rfl, Nat.le_of_ble_eq_true rfl, Nat.le_of_ble_eq_true rfl⟩ 0 rfl rfl [0, 1, 2, 3, 4, 5, 6, 7, 8, 9, 10, 11, 12, 13, 14, 15, 16] [] [0, 1, 2, 3, 4, 5, 6, 7, 8, 9, 10, 11, 12, 13, 14, 15, 16] rfl rfl (by decide) (fun _ => rfl) rfl (Nat.le_of_ble_eq_true rfl) dX7_year_129 (fun r_9 vm_10 h => ?_)
    refine z_if_eq 139 F dX7_year_132 (by decide) (fun c9 => ?_) (fun c9 => ?_)
    · have h := h.1 c9
      refine z_iconst (v := 0) F dX7_year_139 rfl ?_
      exact z_lv [0, 1, 2, 3, 5, 6] rfl (t140 K49 ih49 vm_10 x2 x3 x4 x6 x7 x5 (0 : Int32) h)
    · have h := h.2 c9
      refine z_iconst (v := 1) F dX7_year_135 rfl ?_
      refine z_goto 140 F dX7_year_136 (by decide) ?_
      exact z_lv [0, 1, 2, 3, 5, 6] rfl (t140 K49 ih49 vm_10 x2 x3 x4 x6 x7 x5 (1 : Int32) h)
  have t86 : ∀ (K49 : Mo → Int32 → Int32 → Int32 → Int32 → Int32 → Int32 → Prop) (ih49 : ∀ (vm : Mo) (x2 : Int32) (x3 : Int32) (x4 : Int32) (x5 : Int32) (x6 : Int32) (x7 : Int32), K49 vm x2 x3 x4 x5 x6 x7 → Z E 9 0 0 (w_Mo G a vm) [(0, .ref (a 0)), (2, .int x2), (3, .int x3), (4, .int x4), (5, .int x5), (6, .int x6), (7, .int x7)] 49 []) (vm : Mo) (x2 : Int32) (x3 : Int32) (x4 : Int32) (x5 : Int32) (x6 : Int32) (x7 : Int32) (s1 : Int32), wpX7_year_B86 Q K49 vm x2 x3 x4 x5 x6 x7 s1 → Z E 9 0 0 (w_Mo G a vm) [(0, .ref (a 0)), (2, .int x2), (3, .int x3), (4, .int x4), (5, .int x5), (6, .int x6), (7, .int x7)] 86 [.int s1, .ref (a 0)] := by
    intro K49 ih49 vm x2 x3 x4 x5 x6 x7 s1 h
    unfold wpX7_year_B86 at h
    refine z_put (ci := 7) (ty := .int) (w_Mo G a (Mo_s_fogNow vm s1)) F iX7 tyX7 tyX7_ok nmX7 0 rfl rfl 17 (by decide) f1 rfl rfl rfl rfl rfl (Nat.le_of_ble_eq_true rfl) rfl dX7_year_86 ?_
    refine z_aload_n F dX7_year_89 rfl 0 rfl ?_
    refine z_iload F dX7_year_90 3 rfl ?_
    refine z_bipush (v := 31) F dX7_year_92 rfl ?_
    refine z_irem F dX7_year_94 (by decide) ?_
    refine z_if_ne 102 F dX7_year_95 (by decide) (fun c9 => ?_) (fun c9 => ?_)
    · have h := h.1 c9
      refine z_iconst (v := 0) F dX7_year_102 rfl ?_
      exact z_lv [0, 1, 2, 3, 4, 5, 6] rfl (t103 K49 ih49 (Mo_s_fogNow vm s1) x2 x3 x4 x5 x6 x7 (0 : Int32) h)
    · have h := h.2 c9
      refine z_iconst (v := 1) F dX7_year_98 rfl ?_
      refine z_goto 103 F dX7_year_99 (by decide) ?_
      exact z_lv [0, 1, 2, 3, 4, 5, 6] rfl (t103 K49 ih49 (Mo_s_fogNow vm s1) x2 x3 x4 x5 x6 x7 (1 : Int32) h)
  have t49 : ∀ (n : Nat) (vm : Mo) (x2 : Int32) (x3 : Int32) (x4 : Int32) (x5 : Int32) (x6 : Int32) (x7 : Int32), wpX7_year_L49 Q n vm x2 x3 x4 x5 x6 x7 → Z E 9 0 0 (w_Mo G a vm) [(0, .ref (a 0)), (2, .int x2), (3, .int x3), (4, .int x4), (5, .int x5), (6, .int x6), (7, .int x7)] 49 [] := by
    intro n
    induction n with
    | zero => intro vm x2 x3 x4 x5 x6 x7 h; exact h.elim
    | succ n ihQ =>
      have ih49 : ∀ (vm : Mo) (x2 : Int32) (x3 : Int32) (x4 : Int32) (x5 : Int32) (x6 : Int32) (x7 : Int32), wpX7_year_L49 Q n vm x2 x3 x4 x5 x6 x7 → Z E 9 0 0 (w_Mo G a vm) [(0, .ref (a 0)), (2, .int x2), (3, .int x3), (4, .int x4), (5, .int x5), (6, .int x6), (7, .int x7)] 49 [] := ihQ
      intro vm x2 x3 x4 x5 x6 x7 h
      have h : wpX7_year_H49 Q (wpX7_year_L49 Q n) vm x2 x3 x4 x5 x6 x7 := h
      generalize wpX7_year_L49 Q n = K49 at h ih49
      clear ihQ
      unfold wpX7_year_H49 at h
      refine z_iload F dX7_year_49 6 rfl ?_
      refine z_iload_n F dX7_year_51 rfl 1 rfl ?_
      refine z_icmp_ge 188 F dX7_year_52 (by decide) (fun c9 => ?_) (fun c9 => ?_)
      · have h := h.1 c9
        refine z_iload_n F dX7_year_188 rfl 2 rfl ?_
        refine z_if_ne 199 F dX7_year_189 (by decide) (fun c9 => ?_) (fun c9 => ?_)
        · have h := h.1 c9
          refine z_iload_n F dX7_year_199 rfl 2 rfl ?_
          refine z_iconst (v := 1) F dX7_year_200 rfl ?_
          refine z_icmp_ne 209 F dX7_year_201 (by decide) (fun c9 => ?_) (fun c9 => ?_)
          · have h := h.1 c9
            refine z_iload F dX7_year_209 5 rfl ?_
            exact hret x6 vm _ _ h dX7_year_211
          · have h := h.2 c9
            refine z_iload F dX7_year_204 4 rfl ?_
            refine z_goto 211 F dX7_year_206 (by decide) ?_
            exact hret x5 vm _ _ h dX7_year_211
        · have h := h.2 c9
          refine z_aload_n F dX7_year_192 rfl 0 rfl ?_
          refine z_callVi (fun u9 => w_Mo G a u9) F (mX7_seeAll G a vm _ h) gX7_year_X7_seeAll rfl hdX7_seeAll ⟨rfl, rfl, Nat.le_of_ble_eq_true rfl, Nat.le_of_ble_eq_true rfl, Nat.le_of_ble_eq_true rfl, Nat.le_of_ble_eq_true rfl⟩ 0 rfl rfl [0, 1, 2, 3, 4, 5, 6, 7, 8, 9, 10, 11, 12, 13, 14, 15, 16] [] [0, 1, 2, 3, 4, 5, 6, 7, 8, 9, 10, 11, 12, 13, 14, 15, 16] rfl rfl (by decide) (fun _ => rfl) rfl (Nat.le_of_ble_eq_true rfl) dX7_year_193 (fun r_5 vm_6 h => ?_)
          refine z_goto 211 F dX7_year_196 (by decide) ?_
          exact hret r_5 vm_6 _ _ h dX7_year_211
      · have h := h.2 c9
        refine z_aload_n F dX7_year_55 rfl 0 rfl ?_
        refine z_callVv (fun u9 => w_Mo G a u9) F (mX7_pass G a vm _ h) gX7_year_X7_pass rfl hdX7_pass ⟨rfl, rfl, Nat.le_of_ble_eq_true rfl, Nat.le_of_ble_eq_true rfl, Nat.le_of_ble_eq_true rfl, Nat.le_of_ble_eq_true rfl⟩ 0 rfl rfl [0, 1, 2, 3, 4, 5, 6, 7, 8, 9, 10, 11, 12, 13, 14, 15, 16] [] [0, 1, 2, 3, 4, 5, 6, 7, 8, 9, 10, 11, 12, 13, 14, 15, 16] rfl rfl (by decide) (fun _ => rfl) rfl (Nat.le_of_ble_eq_true rfl) dX7_year_56 (fun vm_7 h => ?_)
        refine z_bipush (v := 75) F dX7_year_59 rfl ?_
        refine z_iload F dX7_year_61 3 rfl ?_
        refine z_imul F dX7_year_63 ?_
        refine z_bipush (v := 74) F dX7_year_64 rfl ?_
        refine z_iadd F dX7_year_66 ?_
        refine z_ldc (v := 65537) F dX7_year_67 f0 ?_
        refine z_irem F dX7_year_69 (by decide) ?_
        refine z_topi (fun x4_8 e9 => ?_)
        have h := h x4_8 e9
        refine z_istore [(4, .int x4_8), (0, .ref (a 0)), (2, .int x2), (3, .int x3), (5, .int x5), (6, .int x6), (7, .int x7)] F dX7_year_70 (by decide) rfl ?_
        refine z_aload_n F dX7_year_72 rfl 1 rfl ?_
        refine z_iload F dX7_year_73 0 rfl ?_
        refine z_bipush (v := 7) F dX7_year_75 rfl ?_
        refine z_irem F dX7_year_77 (by decide) ?_
        refine z_if_ne 85 F dX7_year_78 (by decide) (fun c9 => ?_) (fun c9 => ?_)
        · have h := h.1 c9
          refine z_iconst (v := 0) F dX7_year_85 rfl ?_
          exact z_lv [1, 2, 3, 0, 4, 5, 6] rfl (t86 K49 ih49 vm_7 x2 x3 x4_8 x5 x6 x7 (0 : Int32) h)
        · have h := h.2 c9
          refine z_iconst (v := 1) F dX7_year_81 rfl ?_
          refine z_goto 86 F dX7_year_82 (by decide) ?_
          exact z_lv [1, 2, 3, 0, 4, 5, 6] rfl (t86 K49 ih49 vm_7 x2 x3 x4_8 x5 x6 x7 (1 : Int32) h)
  unfold wpX7_year at h
  refine z_iload_n F dX7_year_0 rfl 1 rfl ?_
  refine z_iconst (v := 0) F dX7_year_1 rfl ?_
  refine z_sipush (v := 9999) F dX7_year_2 rfl ?_
  refine z_callSi (fun _ => w_Mo G a vm) F (mX7_in G p1 (0 : Int32) (9999 : Int32) _ h) gX7_year_X7_in rfl hdX7_in ⟨rfl, rfl, Nat.le_of_ble_eq_true rfl, Nat.le_of_ble_eq_true rfl, Nat.le_of_ble_eq_true rfl, Nat.le_of_ble_eq_true rfl⟩ [] [0, 1, 2, 3, 4, 5, 6, 7, 8, 9, 10, 11, 12, 13, 14, 15, 16] [0, 1, 2, 3, 4, 5, 6, 7, 8, 9, 10, 11, 12, 13, 14, 15, 16] rfl rfl (by decide) (fun _ => rfl) rfl (Nat.le_of_ble_eq_true rfl) dX7_year_5 (fun r_1 u9 h => ?_)
  refine z_if_eq 30 F dX7_year_8 (by decide) (fun c9 => ?_) (fun c9 => ?_)
  · have h := h.1 c9
    refine z_bipush (v := -2) F dX7_year_30 rfl ?_
    exact hret (-2 : Int32) vm _ _ h dX7_year_32
  · have h := h.2 c9
    refine z_iload_n F dX7_year_11 rfl 2 rfl ?_
    refine z_iconst (v := 1) F dX7_year_12 rfl ?_
    refine z_bipush (v := 60) F dX7_year_13 rfl ?_
    refine z_callSi (fun _ => w_Mo G a vm) F (mX7_in G p2 (1 : Int32) (60 : Int32) _ h) gX7_year_X7_in rfl hdX7_in ⟨rfl, rfl, Nat.le_of_ble_eq_true rfl, Nat.le_of_ble_eq_true rfl, Nat.le_of_ble_eq_true rfl, Nat.le_of_ble_eq_true rfl⟩ [] [0, 1, 2, 3, 4, 5, 6, 7, 8, 9, 10, 11, 12, 13, 14, 15, 16] [0, 1, 2, 3, 4, 5, 6, 7, 8, 9, 10, 11, 12, 13, 14, 15, 16] rfl rfl (by decide) (fun _ => rfl) rfl (Nat.le_of_ble_eq_true rfl) dX7_year_15 (fun r_2 u9 h => ?_)
    refine z_if_eq 30 F dX7_year_18 (by decide) (fun c9 => ?_) (fun c9 => ?_)
    · have h := h.1 c9
      refine z_bipush (v := -2) F dX7_year_30 rfl ?_
      exact hret (-2 : Int32) vm _ _ h dX7_year_32
    · have h := h.2 c9
      refine z_iload_n F dX7_year_21 rfl 3 rfl ?_
      refine z_iconst (v := 0) F dX7_year_22 rfl ?_
      refine z_iconst (v := 2) F dX7_year_23 rfl ?_
      refine z_callSi (fun _ => w_Mo G a vm) F (mX7_in G p3 (0 : Int32) (2 : Int32) _ h) gX7_year_X7_in rfl hdX7_in ⟨rfl, rfl, Nat.le_of_ble_eq_true rfl, Nat.le_of_ble_eq_true rfl, Nat.le_of_ble_eq_true rfl, Nat.le_of_ble_eq_true rfl⟩ [] [0, 1, 2, 3, 4, 5, 6, 7, 8, 9, 10, 11, 12, 13, 14, 15, 16] [0, 1, 2, 3, 4, 5, 6, 7, 8, 9, 10, 11, 12, 13, 14, 15, 16] rfl rfl (by decide) (fun _ => rfl) rfl (Nat.le_of_ble_eq_true rfl) dX7_year_24 (fun r_3 u9 h => ?_)
      refine z_if_ne 33 F dX7_year_27 (by decide) (fun c9 => ?_) (fun c9 => ?_)
      · have h := h.1 c9
        refine z_aload_n F dX7_year_33 rfl 0 rfl ?_
        refine z_callVv (fun u9 => w_Mo G a u9) F (mX7_asNow G a vm _ h) gX7_year_X7_asNow rfl hdX7_asNow ⟨rfl, rfl, Nat.le_of_ble_eq_true rfl, Nat.le_of_ble_eq_true rfl, Nat.le_of_ble_eq_true rfl, Nat.le_of_ble_eq_true rfl⟩ 0 rfl rfl [0, 1, 2, 3, 4, 5, 6, 7, 8, 9, 10, 11, 12, 13, 14, 15, 16] [] [0, 1, 2, 3, 4, 5, 6, 7, 8, 9, 10, 11, 12, 13, 14, 15, 16] rfl rfl (by decide) (fun _ => rfl) rfl (Nat.le_of_ble_eq_true rfl) dX7_year_34 (fun vm_4 h => ?_)
        refine z_iload_n F dX7_year_37 rfl 1 rfl ?_
        refine z_istore [(4, .int p1), (0, .ref (a 0)), (1, .int p1), (2, .int p2), (3, .int p3)] F dX7_year_38 (by decide) rfl ?_
        refine z_iconst (v := 0) F dX7_year_40 rfl ?_
        refine z_istore [(5, .int (0 : Int32)), (4, .int p1), (0, .ref (a 0)), (1, .int p1), (2, .int p2), (3, .int p3)] F dX7_year_41 (by decide) rfl ?_
        refine z_iconst (v := 0) F dX7_year_43 rfl ?_
        refine z_istore [(6, .int (0 : Int32)), (5, .int (0 : Int32)), (4, .int p1), (0, .ref (a 0)), (1, .int p1), (2, .int p2), (3, .int p3)] F dX7_year_44 (by decide) rfl ?_
        refine z_iconst (v := 0) F dX7_year_46 rfl ?_
        refine z_istore [(7, .int (0 : Int32)), (6, .int (0 : Int32)), (5, .int (0 : Int32)), (4, .int p1), (0, .ref (a 0)), (1, .int p1), (2, .int p2), (3, .int p3)] F dX7_year_47 (by decide) rfl ?_
        obtain ⟨n9, h⟩ := h
        exact z_lv [4, 6, 7, 3, 2, 1, 0] rfl (t49 n9 vm_4 p2 p3 p1 (0 : Int32) (0 : Int32) (0 : Int32) h)
      · have h := h.2 c9
        refine z_bipush (v := -2) F dX7_year_30 rfl ?_
        exact hret (-2 : Int32) vm _ _ h dX7_year_32
abbrev rmX7_image : Room := { frames := 1, cells := 0, slots := 0, locals := 22 }
set_option maxRecDepth 100000 in
set_option maxHeartbeats 4000000 in
theorem mX7_image (G : ZG) (a : Nat → Nat) (vm : Mo) (p1 : Int32) (Q : Int32 → Mo → Prop) (h : wpX7_image vm p1 Q) : ZMi G yX7_image wsX7_image rmX7_image [.ref (a 0), .int p1] (w_Mo G a vm) (fun vm : Mo => w_Mo G a vm) (Q) := by
  refine z_ofi (cc := cX7_image) (N := 4) (lv := [(0, .ref (a 0)), (1, .int p1)]) (by decide) rfl (Nat.le_of_ble_eq_true rfl) rfl (fun E F hret => ?_)
  have F : ZF E 4 cX7_image RX7 wsX7_image rmX7_image G := F
  have f0 : ZW E (.fieldLink RX7 56 "ColourEchoModel" "image" "[I") := F.at 1 rfl
  have f1 : ZW E (.fieldLink RX7 7 "ColourEchoModel" "off" "[I") := F.at 2 rfl
  have f2 : ZW E (.fieldLink RX7 13 "ColourEchoModel" "keeps" "[I") := F.at 3 rfl
  have f3 : ZW E (.fieldLink RX7 16 "ColourEchoModel" "dress" "[I") := F.at 4 rfl
  have f4 : ZW E (.fieldLink RX7 26 "ColourEchoModel" "past" "[I") := F.at 5 rfl
  have f5 : ZW E (.fieldLink RX7 29 "ColourEchoModel" "sight" "[I") := F.at 6 rfl
  have f6 : ZW E (.fieldLink RX7 19 "ColourEchoModel" "limit" "I") := F.at 8 rfl
  have f7 : ZW E (.fieldLink RX7 96 "ColourEchoModel" "day" "I") := F.at 9 rfl
  have f8 : ZW E (.fieldLink RX7 78 "ColourEchoModel" "fog" "I") := F.at 10 rfl
  have f9 : ZW E (.fieldLink RX7 84 "ColourEchoModel" "snow" "I") := F.at 11 rfl
  have f10 : ZW E (.fieldLink RX7 90 "ColourEchoModel" "out" "I") := F.at 12 rfl
  have f11 : ZW E (.fieldLink RX7 170 "ColourEchoModel" "sights" "I") := F.at 13 rfl
  have f12 : ZW E (.fieldLink RX7 59 "ColourEchoModel" "isKept" "[Z") := F.at 14 rfl
  have f13 : ZW E (.fieldLink RX7 23 "ColourEchoModel" "shownToday" "[I") := F.at 7 rfl
  have iX7 : ∀ x ∈ u_ws RX7 TX7 30, x ∈ wsX7_image := fun _ h => List.mem_cons_of_mem _ (List.mem_append_right _ h)
  have t155 : ∀ (n : Nat) (vm : Mo) (x1 : Int32) (x2 : Int32) (x3 : Int32), wpX7_image_L155 Q n vm x1 x2 x3 → Z E 4 0 0 (w_Mo G a vm) [(0, .ref (a 0)), (1, .int x1), (2, .int x2), (3, .int x3)] 155 [] := by
    intro n
    induction n with
    | zero => intro vm x1 x2 x3 h; exact h.elim
    | succ n ihQ =>
      have ih155 : ∀ (vm : Mo) (x1 : Int32) (x2 : Int32) (x3 : Int32), wpX7_image_L155 Q n vm x1 x2 x3 → Z E 4 0 0 (w_Mo G a vm) [(0, .ref (a 0)), (1, .int x1), (2, .int x2), (3, .int x3)] 155 [] := ihQ
      intro vm x1 x2 x3 h
      have h : wpX7_image_H155 Q (wpX7_image_L155 Q n) vm x1 x2 x3 := h
      generalize wpX7_image_L155 Q n = K155 at h ih155
      clear ihQ
      unfold wpX7_image_H155 at h
      refine z_iload_n F dX7_image_155 rfl 3 rfl ?_
      refine z_iconst (v := 3) F dX7_image_156 rfl ?_
      refine z_icmp_ge 183 F dX7_image_157 (by decide) (fun c9 => ?_) (fun c9 => ?_)
      · have h := h.1 c9
        refine z_aload_n F dX7_image_183 rfl 0 rfl ?_
        refine z_get (ci := 7) F iX7 0 rfl rfl 28 (by decide) f0 rfl rfl dX7_image_184 ?_
        refine z_iload_n F dX7_image_187 rfl 2 rfl ?_
        refine z_bipush (v := 80) F dX7_image_188 rfl ?_
        refine z_iadd F dX7_image_190 ?_
        refine z_aload_n F dX7_image_191 rfl 0 rfl ?_
        refine z_get (ci := 7) F iX7 0 rfl rfl 3 (by decide) f6 rfl rfl dX7_image_192 ?_
        have h9 := h.1
        have h := h.2
        refine z_iast (w_Mo G a (Mo_s_image vm (upd (Mo_image vm) ((x2 + (80 : Int32))).toNatClampNeg (Mo_limit vm)))) F 15 rfl h9 rfl dX7_image_195 ?_
        refine z_aload_n F dX7_image_196 rfl 0 rfl ?_
        refine z_get (ci := 7) F iX7 0 rfl rfl 28 (by decide) f0 rfl rfl dX7_image_197 ?_
        refine z_iload_n F dX7_image_200 rfl 2 rfl ?_
        refine z_bipush (v := 81) F dX7_image_201 rfl ?_
        refine z_iadd F dX7_image_203 ?_
        refine z_aload_n F dX7_image_204 rfl 0 rfl ?_
        refine z_get (ci := 7) (v := .int (Mo_day vm)) F iX7 0 rfl rfl 4 (by decide) f7 rfl rfl dX7_image_205 ?_
        have h9 := h.1
        have h := h.2
        refine z_iast (f := (upd (Mo_image vm) ((x2 + (80 : Int32))).toNatClampNeg (Mo_limit vm))) (w_Mo G a (Mo_s_image vm (upd (upd (Mo_image vm) ((x2 + (80 : Int32))).toNatClampNeg (Mo_limit vm)) ((x2 + (81 : Int32))).toNatClampNeg (Mo_day vm)))) F 15 rfl h9 rfl dX7_image_208 ?_
        refine z_aload_n F dX7_image_209 rfl 0 rfl ?_
        refine z_get (ci := 7) F iX7 0 rfl rfl 28 (by decide) f0 rfl rfl dX7_image_210 ?_
        refine z_iload_n F dX7_image_213 rfl 2 rfl ?_
        refine z_bipush (v := 82) F dX7_image_214 rfl ?_
        refine z_iadd F dX7_image_216 ?_
        refine z_aload_n F dX7_image_217 rfl 0 rfl ?_
        refine z_get (ci := 7) (v := .int (Mo_fog vm)) F iX7 0 rfl rfl 6 (by decide) f8 rfl rfl dX7_image_218 ?_
        have h9 := h.1
        have h := h.2
        refine z_iast (f := (upd (upd (Mo_image vm) ((x2 + (80 : Int32))).toNatClampNeg (Mo_limit vm)) ((x2 + (81 : Int32))).toNatClampNeg (Mo_day vm))) (w_Mo G a (Mo_s_image vm (upd (upd (upd (Mo_image vm) ((x2 + (80 : Int32))).toNatClampNeg (Mo_limit vm)) ((x2 + (81 : Int32))).toNatClampNeg (Mo_day vm)) ((x2 + (82 : Int32))).toNatClampNeg (Mo_fog vm)))) F 15 rfl h9 rfl dX7_image_221 ?_
        refine z_aload_n F dX7_image_222 rfl 0 rfl ?_
        refine z_get (ci := 7) F iX7 0 rfl rfl 28 (by decide) f0 rfl rfl dX7_image_223 ?_
        refine z_iload_n F dX7_image_226 rfl 2 rfl ?_
        refine z_bipush (v := 83) F dX7_image_227 rfl ?_
        refine z_iadd F dX7_image_229 ?_
        refine z_aload_n F dX7_image_230 rfl 0 rfl ?_
        refine z_get (ci := 7) (v := .int (Mo_snow vm)) F iX7 0 rfl rfl 7 (by decide) f9 rfl rfl dX7_image_231 ?_
        have h9 := h.1
        have h := h.2
        refine z_iast (f := (upd (upd (upd (Mo_image vm) ((x2 + (80 : Int32))).toNatClampNeg (Mo_limit vm)) ((x2 + (81 : Int32))).toNatClampNeg (Mo_day vm)) ((x2 + (82 : Int32))).toNatClampNeg (Mo_fog vm))) (w_Mo G a (Mo_s_image vm (upd (upd (upd (upd (Mo_image vm) ((x2 + (80 : Int32))).toNatClampNeg (Mo_limit vm)) ((x2 + (81 : Int32))).toNatClampNeg (Mo_day vm)) ((x2 + (82 : Int32))).toNatClampNeg (Mo_fog vm)) ((x2 + (83 : Int32))).toNatClampNeg (Mo_snow vm)))) F 15 rfl h9 rfl dX7_image_234 ?_
        refine z_aload_n F dX7_image_235 rfl 0 rfl ?_
        refine z_get (ci := 7) F iX7 0 rfl rfl 28 (by decide) f0 rfl rfl dX7_image_236 ?_
        refine z_iload_n F dX7_image_239 rfl 2 rfl ?_
        refine z_bipush (v := 84) F dX7_image_240 rfl ?_
        refine z_iadd F dX7_image_242 ?_
        refine z_aload_n F dX7_image_243 rfl 0 rfl ?_
        refine z_get (ci := 7) (v := .int (Mo_out vm)) F iX7 0 rfl rfl 8 (by decide) f10 rfl rfl dX7_image_244 ?_
        have h9 := h.1
        have h := h.2
        refine z_iast (f := (upd (upd (upd (upd (Mo_image vm) ((x2 + (80 : Int32))).toNatClampNeg (Mo_limit vm)) ((x2 + (81 : Int32))).toNatClampNeg (Mo_day vm)) ((x2 + (82 : Int32))).toNatClampNeg (Mo_fog vm)) ((x2 + (83 : Int32))).toNatClampNeg (Mo_snow vm))) (w_Mo G a (Mo_s_image vm (upd (upd (upd (upd (upd (Mo_image vm) ((x2 + (80 : Int32))).toNatClampNeg (Mo_limit vm)) ((x2 + (81 : Int32))).toNatClampNeg (Mo_day vm)) ((x2 + (82 : Int32))).toNatClampNeg (Mo_fog vm)) ((x2 + (83 : Int32))).toNatClampNeg (Mo_snow vm)) ((x2 + (84 : Int32))).toNatClampNeg (Mo_out vm)))) F 15 rfl h9 rfl dX7_image_247 ?_
        refine z_aload_n F dX7_image_248 rfl 0 rfl ?_
        refine z_get (ci := 7) F iX7 0 rfl rfl 28 (by decide) f0 rfl rfl dX7_image_249 ?_
        refine z_iload_n F dX7_image_252 rfl 2 rfl ?_
        refine z_bipush (v := 85) F dX7_image_253 rfl ?_
        refine z_iadd F dX7_image_255 ?_
        refine z_aload_n F dX7_image_256 rfl 0 rfl ?_
        refine z_get (ci := 7) (v := .int (Mo_sights vm)) F iX7 0 rfl rfl 10 (by decide) f11 rfl rfl dX7_image_257 ?_
        have h9 := h.1
        have h := h.2
        refine z_iast (f := (upd (upd (upd (upd (upd (Mo_image vm) ((x2 + (80 : Int32))).toNatClampNeg (Mo_limit vm)) ((x2 + (81 : Int32))).toNatClampNeg (Mo_day vm)) ((x2 + (82 : Int32))).toNatClampNeg (Mo_fog vm)) ((x2 + (83 : Int32))).toNatClampNeg (Mo_snow vm)) ((x2 + (84 : Int32))).toNatClampNeg (Mo_out vm))) (w_Mo G a (Mo_s_image vm (upd (upd (upd (upd (upd (upd (Mo_image vm) ((x2 + (80 : Int32))).toNatClampNeg (Mo_limit vm)) ((x2 + (81 : Int32))).toNatClampNeg (Mo_day vm)) ((x2 + (82 : Int32))).toNatClampNeg (Mo_fog vm)) ((x2 + (83 : Int32))).toNatClampNeg (Mo_snow vm)) ((x2 + (84 : Int32))).toNatClampNeg (Mo_out vm)) ((x2 + (85 : Int32))).toNatClampNeg (Mo_sights vm)))) F 15 rfl h9 rfl dX7_image_260 ?_
        refine z_aload_n F dX7_image_261 rfl 0 rfl ?_
        refine z_get (ci := 7) F iX7 0 rfl rfl 29 (by decide) f12 rfl rfl dX7_image_262 ?_
        refine z_iload_n F dX7_image_265 rfl 1 rfl ?_
        refine z_iconst (v := 1) F dX7_image_266 rfl ?_
        have h9 := h.1
        have h := h.2
        refine z_zast (f := (Mo_isKept vm)) (w_Mo G a (Mo_s_isKept (Mo_s_image vm (upd (upd (upd (upd (upd (upd (Mo_image vm) ((x2 + (80 : Int32))).toNatClampNeg (Mo_limit vm)) ((x2 + (81 : Int32))).toNatClampNeg (Mo_day vm)) ((x2 + (82 : Int32))).toNatClampNeg (Mo_fog vm)) ((x2 + (83 : Int32))).toNatClampNeg (Mo_snow vm)) ((x2 + (84 : Int32))).toNatClampNeg (Mo_out vm)) ((x2 + (85 : Int32))).toNatClampNeg (Mo_sights vm))) (upd (Mo_isKept vm) (x1).toNatClampNeg (1 : Int32)))) F 16 rfl h9 rfl rfl dX7_image_267 ?_
        refine z_iconst (v := 1) F dX7_image_268 rfl ?_
        exact hret (1 : Int32) (Mo_s_isKept (Mo_s_image vm (upd (upd (upd (upd (upd (upd (Mo_image vm) ((x2 + (80 : Int32))).toNatClampNeg (Mo_limit vm)) ((x2 + (81 : Int32))).toNatClampNeg (Mo_day vm)) ((x2 + (82 : Int32))).toNatClampNeg (Mo_fog vm)) ((x2 + (83 : Int32))).toNatClampNeg (Mo_snow vm)) ((x2 + (84 : Int32))).toNatClampNeg (Mo_out vm)) ((x2 + (85 : Int32))).toNatClampNeg (Mo_sights vm))) (upd (Mo_isKept vm) (x1).toNatClampNeg (1 : Int32))) _ _ h dX7_image_269
      · have h := h.2 c9
        refine z_aload_n F dX7_image_160 rfl 0 rfl ?_
        refine z_get (ci := 7) F iX7 0 rfl rfl 28 (by decide) f0 rfl rfl dX7_image_161 ?_
        refine z_iload_n F dX7_image_164 rfl 2 rfl ?_
        refine z_bipush (v := 70) F dX7_image_165 rfl ?_
        refine z_iadd F dX7_image_167 ?_
        refine z_iload_n F dX7_image_168 rfl 3 rfl ?_
        refine z_iadd F dX7_image_169 ?_
        refine z_aload_n F dX7_image_170 rfl 0 rfl ?_
        refine z_get (ci := 7) F iX7 0 rfl rfl 5 (by decide) f13 rfl rfl dX7_image_171 ?_
        refine z_iload_n F dX7_image_174 rfl 3 rfl ?_
        have h9 := h.1
        have h := h.2
        refine z_iald F 4 rfl h9 dX7_image_175 ?_
        have h9 := h.1
        have h := h.2
        refine z_iast (w_Mo G a (Mo_s_image vm (upd (Mo_image vm) (((x2 + (70 : Int32)) + x3)).toNatClampNeg ((Mo_shownToday vm) (x3).toNatClampNeg)))) F 15 rfl h9 rfl dX7_image_176 ?_
        obtain ⟨x3_7, e9⟩ : ∃ z : Int32, z = x3 + 1 := ⟨_, rfl⟩
        have h := h x3_7 e9
        refine z_iinc (v := x3_7) [(3, .int x3_7), (0, .ref (a 0)), (1, .int x1), (2, .int x2)] F dX7_image_177 3 rfl (by rw [e9]; rfl) (by decide) rfl ?_
        refine z_goto 155 F dX7_image_180 (by decide) ?_
        exact z_lv [1, 2, 3, 0] rfl (ih155 (Mo_s_image vm (upd (Mo_image vm) (((x2 + (70 : Int32)) + x3)).toNatClampNeg ((Mo_shownToday vm) (x3).toNatClampNeg))) x1 x2 x3_7 h)
  have t124 : ∀ (n : Nat) (vm : Mo) (x1 : Int32) (x2 : Int32) (x3 : Int32), wpX7_image_L124 Q n vm x1 x2 x3 → Z E 4 0 0 (w_Mo G a vm) [(0, .ref (a 0)), (1, .int x1), (2, .int x2), (3, .int x3)] 124 [] := by
    intro n
    induction n with
    | zero => intro vm x1 x2 x3 h; exact h.elim
    | succ n ihQ =>
      have ih124 : ∀ (vm : Mo) (x1 : Int32) (x2 : Int32) (x3 : Int32), wpX7_image_L124 Q n vm x1 x2 x3 → Z E 4 0 0 (w_Mo G a vm) [(0, .ref (a 0)), (1, .int x1), (2, .int x2), (3, .int x3)] 124 [] := ihQ
      intro vm x1 x2 x3 h
      have h : wpX7_image_H124 Q (wpX7_image_L124 Q n) vm x1 x2 x3 := h
      generalize wpX7_image_L124 Q n = K124 at h ih124
      clear ihQ
      unfold wpX7_image_H124 at h
      refine z_iload_n F dX7_image_124 rfl 3 rfl ?_
      refine z_bipush (v := 16) F dX7_image_125 rfl ?_
      refine z_icmp_ge 153 F dX7_image_127 (by decide) (fun c9 => ?_) (fun c9 => ?_)
      · have h := h.1 c9
        refine z_iconst (v := 0) F dX7_image_153 rfl ?_
        refine z_istore_n [(3, .int (0 : Int32)), (0, .ref (a 0)), (1, .int x1), (2, .int x2)] F dX7_image_154 rfl (by decide) rfl ?_
        obtain ⟨n9, h⟩ := h
        exact z_lv [1, 2, 3, 0] rfl (t155 n9 vm x1 x2 (0 : Int32) h)
      · have h := h.2 c9
        refine z_aload_n F dX7_image_130 rfl 0 rfl ?_
        refine z_get (ci := 7) F iX7 0 rfl rfl 28 (by decide) f0 rfl rfl dX7_image_131 ?_
        refine z_iload_n F dX7_image_134 rfl 2 rfl ?_
        refine z_bipush (v := 53) F dX7_image_135 rfl ?_
        refine z_iadd F dX7_image_137 ?_
        refine z_iload_n F dX7_image_138 rfl 3 rfl ?_
        refine z_iadd F dX7_image_139 ?_
        refine z_aload_n F dX7_image_140 rfl 0 rfl ?_
        refine z_get (ci := 7) F iX7 0 rfl rfl 11 (by decide) f5 rfl rfl dX7_image_141 ?_
        refine z_iload_n F dX7_image_144 rfl 3 rfl ?_
        have h9 := h.1
        have h := h.2
        refine z_iald F 6 rfl h9 dX7_image_145 ?_
        have h9 := h.1
        have h := h.2
        refine z_iast (w_Mo G a (Mo_s_image vm (upd (Mo_image vm) (((x2 + (53 : Int32)) + x3)).toNatClampNeg ((Mo_sight vm) (x3).toNatClampNeg)))) F 15 rfl h9 rfl dX7_image_146 ?_
        obtain ⟨x3_6, e9⟩ : ∃ z : Int32, z = x3 + 1 := ⟨_, rfl⟩
        have h := h x3_6 e9
        refine z_iinc (v := x3_6) [(3, .int x3_6), (0, .ref (a 0)), (1, .int x1), (2, .int x2)] F dX7_image_147 3 rfl (by rw [e9]; rfl) (by decide) rfl ?_
        refine z_goto 124 F dX7_image_150 (by decide) ?_
        exact z_lv [1, 2, 3, 0] rfl (ih124 (Mo_s_image vm (upd (Mo_image vm) (((x2 + (53 : Int32)) + x3)).toNatClampNeg ((Mo_sight vm) (x3).toNatClampNeg))) x1 x2 x3_6 h)
  have t93 : ∀ (n : Nat) (vm : Mo) (x1 : Int32) (x2 : Int32) (x3 : Int32), wpX7_image_L93 Q n vm x1 x2 x3 → Z E 4 0 0 (w_Mo G a vm) [(0, .ref (a 0)), (1, .int x1), (2, .int x2), (3, .int x3)] 93 [] := by
    intro n
    induction n with
    | zero => intro vm x1 x2 x3 h; exact h.elim
    | succ n ihQ =>
      have ih93 : ∀ (vm : Mo) (x1 : Int32) (x2 : Int32) (x3 : Int32), wpX7_image_L93 Q n vm x1 x2 x3 → Z E 4 0 0 (w_Mo G a vm) [(0, .ref (a 0)), (1, .int x1), (2, .int x2), (3, .int x3)] 93 [] := ihQ
      intro vm x1 x2 x3 h
      have h : wpX7_image_H93 Q (wpX7_image_L93 Q n) vm x1 x2 x3 := h
      generalize wpX7_image_L93 Q n = K93 at h ih93
      clear ihQ
      unfold wpX7_image_H93 at h
      refine z_iload_n F dX7_image_93 rfl 3 rfl ?_
      refine z_bipush (v := 27) F dX7_image_94 rfl ?_
      refine z_icmp_ge 122 F dX7_image_96 (by decide) (fun c9 => ?_) (fun c9 => ?_)
      · have h := h.1 c9
        refine z_iconst (v := 0) F dX7_image_122 rfl ?_
        refine z_istore_n [(3, .int (0 : Int32)), (0, .ref (a 0)), (1, .int x1), (2, .int x2)] F dX7_image_123 rfl (by decide) rfl ?_
        obtain ⟨n9, h⟩ := h
        exact z_lv [1, 2, 3, 0] rfl (t124 n9 vm x1 x2 (0 : Int32) h)
      · have h := h.2 c9
        refine z_aload_n F dX7_image_99 rfl 0 rfl ?_
        refine z_get (ci := 7) F iX7 0 rfl rfl 28 (by decide) f0 rfl rfl dX7_image_100 ?_
        refine z_iload_n F dX7_image_103 rfl 2 rfl ?_
        refine z_bipush (v := 26) F dX7_image_104 rfl ?_
        refine z_iadd F dX7_image_106 ?_
        refine z_iload_n F dX7_image_107 rfl 3 rfl ?_
        refine z_iadd F dX7_image_108 ?_
        refine z_aload_n F dX7_image_109 rfl 0 rfl ?_
        refine z_get (ci := 7) F iX7 0 rfl rfl 9 (by decide) f4 rfl rfl dX7_image_110 ?_
        refine z_iload_n F dX7_image_113 rfl 3 rfl ?_
        have h9 := h.1
        have h := h.2
        refine z_iald F 5 rfl h9 dX7_image_114 ?_
        have h9 := h.1
        have h := h.2
        refine z_iast (w_Mo G a (Mo_s_image vm (upd (Mo_image vm) (((x2 + (26 : Int32)) + x3)).toNatClampNeg ((Mo_past vm) (x3).toNatClampNeg)))) F 15 rfl h9 rfl dX7_image_115 ?_
        obtain ⟨x3_5, e9⟩ : ∃ z : Int32, z = x3 + 1 := ⟨_, rfl⟩
        have h := h x3_5 e9
        refine z_iinc (v := x3_5) [(3, .int x3_5), (0, .ref (a 0)), (1, .int x1), (2, .int x2)] F dX7_image_116 3 rfl (by rw [e9]; rfl) (by decide) rfl ?_
        refine z_goto 93 F dX7_image_119 (by decide) ?_
        exact z_lv [1, 2, 3, 0] rfl (ih93 (Mo_s_image vm (upd (Mo_image vm) (((x2 + (26 : Int32)) + x3)).toNatClampNeg ((Mo_past vm) (x3).toNatClampNeg))) x1 x2 x3_5 h)
  have t62 : ∀ (n : Nat) (vm : Mo) (x1 : Int32) (x2 : Int32) (x3 : Int32), wpX7_image_L62 Q n vm x1 x2 x3 → Z E 4 0 0 (w_Mo G a vm) [(0, .ref (a 0)), (1, .int x1), (2, .int x2), (3, .int x3)] 62 [] := by
    intro n
    induction n with
    | zero => intro vm x1 x2 x3 h; exact h.elim
    | succ n ihQ =>
      have ih62 : ∀ (vm : Mo) (x1 : Int32) (x2 : Int32) (x3 : Int32), wpX7_image_L62 Q n vm x1 x2 x3 → Z E 4 0 0 (w_Mo G a vm) [(0, .ref (a 0)), (1, .int x1), (2, .int x2), (3, .int x3)] 62 [] := ihQ
      intro vm x1 x2 x3 h
      have h : wpX7_image_H62 Q (wpX7_image_L62 Q n) vm x1 x2 x3 := h
      generalize wpX7_image_L62 Q n = K62 at h ih62
      clear ihQ
      unfold wpX7_image_H62 at h
      refine z_iload_n F dX7_image_62 rfl 3 rfl ?_
      refine z_bipush (v := 18) F dX7_image_63 rfl ?_
      refine z_icmp_ge 91 F dX7_image_65 (by decide) (fun c9 => ?_) (fun c9 => ?_)
      · have h := h.1 c9
        refine z_iconst (v := 0) F dX7_image_91 rfl ?_
        refine z_istore_n [(3, .int (0 : Int32)), (0, .ref (a 0)), (1, .int x1), (2, .int x2)] F dX7_image_92 rfl (by decide) rfl ?_
        obtain ⟨n9, h⟩ := h
        exact z_lv [1, 2, 3, 0] rfl (t93 n9 vm x1 x2 (0 : Int32) h)
      · have h := h.2 c9
        refine z_aload_n F dX7_image_68 rfl 0 rfl ?_
        refine z_get (ci := 7) F iX7 0 rfl rfl 28 (by decide) f0 rfl rfl dX7_image_69 ?_
        refine z_iload_n F dX7_image_72 rfl 2 rfl ?_
        refine z_bipush (v := 8) F dX7_image_73 rfl ?_
        refine z_iadd F dX7_image_75 ?_
        refine z_iload_n F dX7_image_76 rfl 3 rfl ?_
        refine z_iadd F dX7_image_77 ?_
        refine z_aload_n F dX7_image_78 rfl 0 rfl ?_
        refine z_get (ci := 7) F iX7 0 rfl rfl 2 (by decide) f3 rfl rfl dX7_image_79 ?_
        refine z_iload_n F dX7_image_82 rfl 3 rfl ?_
        have h9 := h.1
        have h := h.2
        refine z_iald F 3 rfl h9 dX7_image_83 ?_
        have h9 := h.1
        have h := h.2
        refine z_iast (w_Mo G a (Mo_s_image vm (upd (Mo_image vm) (((x2 + (8 : Int32)) + x3)).toNatClampNeg ((Mo_dress vm) (x3).toNatClampNeg)))) F 15 rfl h9 rfl dX7_image_84 ?_
        obtain ⟨x3_4, e9⟩ : ∃ z : Int32, z = x3 + 1 := ⟨_, rfl⟩
        have h := h x3_4 e9
        refine z_iinc (v := x3_4) [(3, .int x3_4), (0, .ref (a 0)), (1, .int x1), (2, .int x2)] F dX7_image_85 3 rfl (by rw [e9]; rfl) (by decide) rfl ?_
        refine z_goto 62 F dX7_image_88 (by decide) ?_
        exact z_lv [1, 2, 3, 0] rfl (ih62 (Mo_s_image vm (upd (Mo_image vm) (((x2 + (8 : Int32)) + x3)).toNatClampNeg ((Mo_dress vm) (x3).toNatClampNeg))) x1 x2 x3_4 h)
  have t19 : ∀ (n : Nat) (vm : Mo) (x1 : Int32) (x2 : Int32) (x3 : Int32), wpX7_image_L19 Q n vm x1 x2 x3 → Z E 4 0 0 (w_Mo G a vm) [(0, .ref (a 0)), (1, .int x1), (2, .int x2), (3, .int x3)] 19 [] := by
    intro n
    induction n with
    | zero => intro vm x1 x2 x3 h; exact h.elim
    | succ n ihQ =>
      have ih19 : ∀ (vm : Mo) (x1 : Int32) (x2 : Int32) (x3 : Int32), wpX7_image_L19 Q n vm x1 x2 x3 → Z E 4 0 0 (w_Mo G a vm) [(0, .ref (a 0)), (1, .int x1), (2, .int x2), (3, .int x3)] 19 [] := ihQ
      intro vm x1 x2 x3 h
      have h : wpX7_image_H19 Q (wpX7_image_L19 Q n) vm x1 x2 x3 := h
      generalize wpX7_image_L19 Q n = K19 at h ih19
      clear ihQ
      unfold wpX7_image_H19 at h
      refine z_iload_n F dX7_image_19 rfl 3 rfl ?_
      refine z_iconst (v := 4) F dX7_image_20 rfl ?_
      refine z_icmp_ge 60 F dX7_image_21 (by decide) (fun c9 => ?_) (fun c9 => ?_)
      · have h := h.1 c9
        refine z_iconst (v := 0) F dX7_image_60 rfl ?_
        refine z_istore_n [(3, .int (0 : Int32)), (0, .ref (a 0)), (1, .int x1), (2, .int x2)] F dX7_image_61 rfl (by decide) rfl ?_
        obtain ⟨n9, h⟩ := h
        exact z_lv [1, 2, 3, 0] rfl (t62 n9 vm x1 x2 (0 : Int32) h)
      · have h := h.2 c9
        refine z_aload_n F dX7_image_24 rfl 0 rfl ?_
        refine z_get (ci := 7) F iX7 0 rfl rfl 28 (by decide) f0 rfl rfl dX7_image_25 ?_
        refine z_iload_n F dX7_image_28 rfl 2 rfl ?_
        refine z_iload_n F dX7_image_29 rfl 3 rfl ?_
        refine z_iadd F dX7_image_30 ?_
        refine z_aload_n F dX7_image_31 rfl 0 rfl ?_
        refine z_get (ci := 7) F iX7 0 rfl rfl 0 (by decide) f1 rfl rfl dX7_image_32 ?_
        refine z_iload_n F dX7_image_35 rfl 3 rfl ?_
        have h9 := h.1
        have h := h.2
        refine z_iald F 1 rfl h9 dX7_image_36 ?_
        have h9 := h.1
        have h := h.2
        refine z_iast (w_Mo G a (Mo_s_image vm (upd (Mo_image vm) ((x2 + x3)).toNatClampNeg ((Mo_off vm) (x3).toNatClampNeg)))) F 15 rfl h9 rfl dX7_image_37 ?_
        refine z_aload_n F dX7_image_38 rfl 0 rfl ?_
        refine z_get (ci := 7) F iX7 0 rfl rfl 28 (by decide) f0 rfl rfl dX7_image_39 ?_
        refine z_iload_n F dX7_image_42 rfl 2 rfl ?_
        refine z_iconst (v := 4) F dX7_image_43 rfl ?_
        refine z_iadd F dX7_image_44 ?_
        refine z_iload_n F dX7_image_45 rfl 3 rfl ?_
        refine z_iadd F dX7_image_46 ?_
        refine z_aload_n F dX7_image_47 rfl 0 rfl ?_
        refine z_get (ci := 7) F iX7 0 rfl rfl 1 (by decide) f2 rfl rfl dX7_image_48 ?_
        refine z_iload_n F dX7_image_51 rfl 3 rfl ?_
        have h9 := h.1
        have h := h.2
        refine z_iald (f := (Mo_keeps vm)) F 2 rfl h9 dX7_image_52 ?_
        have h9 := h.1
        have h := h.2
        refine z_iast (f := (upd (Mo_image vm) ((x2 + x3)).toNatClampNeg ((Mo_off vm) (x3).toNatClampNeg))) (w_Mo G a (Mo_s_image vm (upd (upd (Mo_image vm) ((x2 + x3)).toNatClampNeg ((Mo_off vm) (x3).toNatClampNeg)) (((x2 + (4 : Int32)) + x3)).toNatClampNeg ((Mo_keeps vm) (x3).toNatClampNeg)))) F 15 rfl h9 rfl dX7_image_53 ?_
        obtain ⟨x3_3, e9⟩ : ∃ z : Int32, z = x3 + 1 := ⟨_, rfl⟩
        have h := h x3_3 e9
        refine z_iinc (v := x3_3) [(3, .int x3_3), (0, .ref (a 0)), (1, .int x1), (2, .int x2)] F dX7_image_54 3 rfl (by rw [e9]; rfl) (by decide) rfl ?_
        refine z_goto 19 F dX7_image_57 (by decide) ?_
        exact z_lv [1, 2, 3, 0] rfl (ih19 (Mo_s_image vm (upd (upd (Mo_image vm) ((x2 + x3)).toNatClampNeg ((Mo_off vm) (x3).toNatClampNeg)) (((x2 + (4 : Int32)) + x3)).toNatClampNeg ((Mo_keeps vm) (x3).toNatClampNeg))) x1 x2 x3_3 h)
  unfold wpX7_image at h
  refine z_iload_n F dX7_image_0 rfl 1 rfl ?_
  refine z_iconst (v := 0) F dX7_image_1 rfl ?_
  refine z_iconst (v := 1) F dX7_image_2 rfl ?_
  refine z_callSi (fun _ => w_Mo G a vm) F (mX7_in G p1 (0 : Int32) (1 : Int32) _ h) gX7_image_X7_in rfl hdX7_in ⟨rfl, rfl, Nat.le_of_ble_eq_true rfl, Nat.le_of_ble_eq_true rfl, Nat.le_of_ble_eq_true rfl, Nat.le_of_ble_eq_true rfl⟩ [] [0, 1, 2, 3, 4, 5, 6, 7, 8, 9, 10, 11, 12, 13, 14, 15, 16] [0, 1, 2, 3, 4, 5, 6, 7, 8, 9, 10, 11, 12, 13, 14, 15, 16] rfl rfl (by decide) (fun _ => rfl) rfl (Nat.le_of_ble_eq_true rfl) dX7_image_3 (fun r_1 u9 h => ?_)
  refine z_if_ne 12 F dX7_image_6 (by decide) (fun c9 => ?_) (fun c9 => ?_)
  · have h := h.1 c9
    refine z_bipush (v := 100) F dX7_image_12 rfl ?_
    refine z_iload_n F dX7_image_14 rfl 1 rfl ?_
    refine z_imul F dX7_image_15 ?_
    refine z_topi (fun x2_2 e9 => ?_)
    have h := h x2_2 e9
    refine z_istore_n [(2, .int x2_2), (0, .ref (a 0)), (1, .int p1)] F dX7_image_16 rfl (by decide) rfl ?_
    refine z_iconst (v := 0) F dX7_image_17 rfl ?_
    refine z_istore_n [(3, .int (0 : Int32)), (2, .int x2_2), (0, .ref (a 0)), (1, .int p1)] F dX7_image_18 rfl (by decide) rfl ?_
    obtain ⟨n9, h⟩ := h
    exact z_lv [2, 3, 1, 0] rfl (t19 n9 vm p1 x2_2 (0 : Int32) h)
  · have h := h.2 c9
    refine z_bipush (v := -2) F dX7_image_9 rfl ?_
    exact hret (-2 : Int32) vm _ _ h dX7_image_11
abbrev rmX7_restore : Room := { frames := 1, cells := 0, slots := 0, locals := 22 }
set_option maxRecDepth 100000 in
set_option maxHeartbeats 4000000 in
theorem mX7_restore (G : ZG) (a : Nat → Nat) (vm : Mo) (p1 : Int32) (Q : Int32 → Mo → Prop) (h : wpX7_restore vm p1 Q) : ZMi G yX7_restore wsX7_restore rmX7_restore [.ref (a 0), .int p1] (w_Mo G a vm) (fun vm : Mo => w_Mo G a vm) (Q) := by
  refine z_ofi (cc := cX7_restore) (N := 4) (lv := [(0, .ref (a 0)), (1, .int p1)]) (by decide) rfl (Nat.le_of_ble_eq_true rfl) rfl (fun E F hret => ?_)
  have F : ZF E 4 cX7_restore RX7 wsX7_restore rmX7_restore G := F
  have f0 : ZW E (.fieldLink RX7 59 "ColourEchoModel" "isKept" "[Z") := F.at 1 rfl
  have f1 : ZW E (.fieldLink RX7 7 "ColourEchoModel" "off" "[I") := F.at 2 rfl
  have f2 : ZW E (.fieldLink RX7 56 "ColourEchoModel" "image" "[I") := F.at 3 rfl
  have f3 : ZW E (.fieldLink RX7 13 "ColourEchoModel" "keeps" "[I") := F.at 4 rfl
  have f4 : ZW E (.fieldLink RX7 16 "ColourEchoModel" "dress" "[I") := F.at 5 rfl
  have f5 : ZW E (.fieldLink RX7 26 "ColourEchoModel" "past" "[I") := F.at 6 rfl
  have f6 : ZW E (.fieldLink RX7 29 "ColourEchoModel" "sight" "[I") := F.at 7 rfl
  have f7 : ZW E (.fieldLink RX7 19 "ColourEchoModel" "limit" "I") := F.at 9 rfl
  have f8 : ZW E (.fieldLink RX7 96 "ColourEchoModel" "day" "I") := F.at 10 rfl
  have f9 : ZW E (.fieldLink RX7 78 "ColourEchoModel" "fog" "I") := F.at 11 rfl
  have f10 : ZW E (.fieldLink RX7 84 "ColourEchoModel" "snow" "I") := F.at 12 rfl
  have f11 : ZW E (.fieldLink RX7 90 "ColourEchoModel" "out" "I") := F.at 13 rfl
  have f12 : ZW E (.fieldLink RX7 170 "ColourEchoModel" "sights" "I") := F.at 14 rfl
  have f13 : ZW E (.fieldLink RX7 23 "ColourEchoModel" "shownToday" "[I") := F.at 8 rfl
  have iX7 : ∀ x ∈ u_ws RX7 TX7 30, x ∈ wsX7_restore := fun _ h => List.mem_cons_of_mem _ (List.mem_append_right _ h)
  have t167 : ∀ (n : Nat) (vm : Mo) (x2 : Int32) (x3 : Int32), wpX7_restore_L167 Q n vm x2 x3 → Z E 4 0 0 (w_Mo G a vm) [(0, .ref (a 0)), (2, .int x2), (3, .int x3)] 167 [] := by
    intro n
    induction n with
    | zero => intro vm x2 x3 h; exact h.elim
    | succ n ihQ =>
      have ih167 : ∀ (vm : Mo) (x2 : Int32) (x3 : Int32), wpX7_restore_L167 Q n vm x2 x3 → Z E 4 0 0 (w_Mo G a vm) [(0, .ref (a 0)), (2, .int x2), (3, .int x3)] 167 [] := ihQ
      intro vm x2 x3 h
      have h : wpX7_restore_H167 Q (wpX7_restore_L167 Q n) vm x2 x3 := h
      generalize wpX7_restore_L167 Q n = K167 at h ih167
      clear ihQ
      unfold wpX7_restore_H167 at h
      refine z_iload_n F dX7_restore_167 rfl 2 rfl ?_
      refine z_iconst (v := 3) F dX7_restore_168 rfl ?_
      refine z_icmp_ge 195 F dX7_restore_169 (by decide) (fun c9 => ?_) (fun c9 => ?_)
      · have h := h.1 c9
        refine z_aload_n F dX7_restore_195 rfl 0 rfl ?_
        refine z_aload_n F dX7_restore_196 rfl 0 rfl ?_
        refine z_get (ci := 7) F iX7 0 rfl rfl 28 (by decide) f2 rfl rfl dX7_restore_197 ?_
        refine z_iload_n F dX7_restore_200 rfl 1 rfl ?_
        refine z_bipush (v := 80) F dX7_restore_201 rfl ?_
        refine z_iadd F dX7_restore_203 ?_
        have h9 := h.1
        have h := h.2
        refine z_iald F 15 rfl h9 dX7_restore_204 ?_
        refine z_put (ci := 7) (ty := .int) (w_Mo G a (Mo_s_limit vm ((Mo_image vm) ((x2 + (80 : Int32))).toNatClampNeg))) F iX7 tyX7 tyX7_ok nmX7 0 rfl rfl 3 (by decide) f7 rfl rfl rfl rfl rfl (Nat.le_of_ble_eq_true rfl) rfl dX7_restore_205 ?_
        refine z_aload_n F dX7_restore_208 rfl 0 rfl ?_
        refine z_aload_n F dX7_restore_209 rfl 0 rfl ?_
        refine z_get (ci := 7) F iX7 0 rfl rfl 28 (by decide) f2 rfl rfl dX7_restore_210 ?_
        refine z_iload_n F dX7_restore_213 rfl 1 rfl ?_
        refine z_bipush (v := 81) F dX7_restore_214 rfl ?_
        refine z_iadd F dX7_restore_216 ?_
        have h9 := h.1
        have h := h.2
        refine z_iald (f := (Mo_image vm)) F 15 rfl h9 dX7_restore_217 ?_
        refine z_put (ci := 7) (ty := .int) (w_Mo G a (Mo_s_day (Mo_s_limit vm ((Mo_image vm) ((x2 + (80 : Int32))).toNatClampNeg)) ((Mo_image vm) ((x2 + (81 : Int32))).toNatClampNeg))) F iX7 tyX7 tyX7_ok nmX7 0 rfl rfl 4 (by decide) f8 rfl rfl rfl rfl rfl (Nat.le_of_ble_eq_true rfl) rfl dX7_restore_218 ?_
        refine z_aload_n F dX7_restore_221 rfl 0 rfl ?_
        refine z_aload_n F dX7_restore_222 rfl 0 rfl ?_
        refine z_get (ci := 7) F iX7 0 rfl rfl 28 (by decide) f2 rfl rfl dX7_restore_223 ?_
        refine z_iload_n F dX7_restore_226 rfl 1 rfl ?_
        refine z_bipush (v := 82) F dX7_restore_227 rfl ?_
        refine z_iadd F dX7_restore_229 ?_
        have h9 := h.1
        have h := h.2
        refine z_iald (f := (Mo_image vm)) F 15 rfl h9 dX7_restore_230 ?_
        refine z_put (ci := 7) (ty := .int) (w_Mo G a (Mo_s_fog (Mo_s_day (Mo_s_limit vm ((Mo_image vm) ((x2 + (80 : Int32))).toNatClampNeg)) ((Mo_image vm) ((x2 + (81 : Int32))).toNatClampNeg)) ((Mo_image vm) ((x2 + (82 : Int32))).toNatClampNeg))) F iX7 tyX7 tyX7_ok nmX7 0 rfl rfl 6 (by decide) f9 rfl rfl rfl rfl rfl (Nat.le_of_ble_eq_true rfl) rfl dX7_restore_231 ?_
        refine z_aload_n F dX7_restore_234 rfl 0 rfl ?_
        refine z_aload_n F dX7_restore_235 rfl 0 rfl ?_
        refine z_get (ci := 7) F iX7 0 rfl rfl 28 (by decide) f2 rfl rfl dX7_restore_236 ?_
        refine z_iload_n F dX7_restore_239 rfl 1 rfl ?_
        refine z_bipush (v := 83) F dX7_restore_240 rfl ?_
        refine z_iadd F dX7_restore_242 ?_
        have h9 := h.1
        have h := h.2
        refine z_iald (f := (Mo_image vm)) F 15 rfl h9 dX7_restore_243 ?_
        refine z_put (ci := 7) (ty := .int) (w_Mo G a (Mo_s_snow (Mo_s_fog (Mo_s_day (Mo_s_limit vm ((Mo_image vm) ((x2 + (80 : Int32))).toNatClampNeg)) ((Mo_image vm) ((x2 + (81 : Int32))).toNatClampNeg)) ((Mo_image vm) ((x2 + (82 : Int32))).toNatClampNeg)) ((Mo_image vm) ((x2 + (83 : Int32))).toNatClampNeg))) F iX7 tyX7 tyX7_ok nmX7 0 rfl rfl 7 (by decide) f10 rfl rfl rfl rfl rfl (Nat.le_of_ble_eq_true rfl) rfl dX7_restore_244 ?_
        refine z_aload_n F dX7_restore_247 rfl 0 rfl ?_
        refine z_aload_n F dX7_restore_248 rfl 0 rfl ?_
        refine z_get (ci := 7) F iX7 0 rfl rfl 28 (by decide) f2 rfl rfl dX7_restore_249 ?_
        refine z_iload_n F dX7_restore_252 rfl 1 rfl ?_
        refine z_bipush (v := 84) F dX7_restore_253 rfl ?_
        refine z_iadd F dX7_restore_255 ?_
        have h9 := h.1
        have h := h.2
        refine z_iald (f := (Mo_image vm)) F 15 rfl h9 dX7_restore_256 ?_
        refine z_put (ci := 7) (ty := .int) (w_Mo G a (Mo_s_out (Mo_s_snow (Mo_s_fog (Mo_s_day (Mo_s_limit vm ((Mo_image vm) ((x2 + (80 : Int32))).toNatClampNeg)) ((Mo_image vm) ((x2 + (81 : Int32))).toNatClampNeg)) ((Mo_image vm) ((x2 + (82 : Int32))).toNatClampNeg)) ((Mo_image vm) ((x2 + (83 : Int32))).toNatClampNeg)) ((Mo_image vm) ((x2 + (84 : Int32))).toNatClampNeg))) F iX7 tyX7 tyX7_ok nmX7 0 rfl rfl 8 (by decide) f11 rfl rfl rfl rfl rfl (Nat.le_of_ble_eq_true rfl) rfl dX7_restore_257 ?_
        refine z_aload_n F dX7_restore_260 rfl 0 rfl ?_
        refine z_aload_n F dX7_restore_261 rfl 0 rfl ?_
        refine z_get (ci := 7) F iX7 0 rfl rfl 28 (by decide) f2 rfl rfl dX7_restore_262 ?_
        refine z_iload_n F dX7_restore_265 rfl 1 rfl ?_
        refine z_bipush (v := 85) F dX7_restore_266 rfl ?_
        refine z_iadd F dX7_restore_268 ?_
        have h9 := h.1
        have h := h.2
        refine z_iald (f := (Mo_image vm)) F 15 rfl h9 dX7_restore_269 ?_
        refine z_put (ci := 7) (ty := .int) (w_Mo G a (Mo_s_sights (Mo_s_out (Mo_s_snow (Mo_s_fog (Mo_s_day (Mo_s_limit vm ((Mo_image vm) ((x2 + (80 : Int32))).toNatClampNeg)) ((Mo_image vm) ((x2 + (81 : Int32))).toNatClampNeg)) ((Mo_image vm) ((x2 + (82 : Int32))).toNatClampNeg)) ((Mo_image vm) ((x2 + (83 : Int32))).toNatClampNeg)) ((Mo_image vm) ((x2 + (84 : Int32))).toNatClampNeg)) ((Mo_image vm) ((x2 + (85 : Int32))).toNatClampNeg))) F iX7 tyX7 tyX7_ok nmX7 0 rfl rfl 10 (by decide) f12 rfl rfl rfl rfl rfl (Nat.le_of_ble_eq_true rfl) rfl dX7_restore_270 ?_
        refine z_iconst (v := 1) F dX7_restore_273 rfl ?_
        exact hret (1 : Int32) (Mo_s_sights (Mo_s_out (Mo_s_snow (Mo_s_fog (Mo_s_day (Mo_s_limit vm ((Mo_image vm) ((x2 + (80 : Int32))).toNatClampNeg)) ((Mo_image vm) ((x2 + (81 : Int32))).toNatClampNeg)) ((Mo_image vm) ((x2 + (82 : Int32))).toNatClampNeg)) ((Mo_image vm) ((x2 + (83 : Int32))).toNatClampNeg)) ((Mo_image vm) ((x2 + (84 : Int32))).toNatClampNeg)) ((Mo_image vm) ((x2 + (85 : Int32))).toNatClampNeg)) _ _ h dX7_restore_274
      · have h := h.2 c9
        refine z_aload_n F dX7_restore_172 rfl 0 rfl ?_
        refine z_get (ci := 7) F iX7 0 rfl rfl 5 (by decide) f13 rfl rfl dX7_restore_173 ?_
        refine z_iload_n F dX7_restore_176 rfl 2 rfl ?_
        refine z_aload_n F dX7_restore_177 rfl 0 rfl ?_
        refine z_get (ci := 7) F iX7 0 rfl rfl 28 (by decide) f2 rfl rfl dX7_restore_178 ?_
        refine z_iload_n F dX7_restore_181 rfl 1 rfl ?_
        refine z_bipush (v := 70) F dX7_restore_182 rfl ?_
        refine z_iadd F dX7_restore_184 ?_
        refine z_iload_n F dX7_restore_185 rfl 2 rfl ?_
        refine z_iadd F dX7_restore_186 ?_
        have h9 := h.1
        have h := h.2
        refine z_iald F 15 rfl h9 dX7_restore_187 ?_
        have h9 := h.1
        have h := h.2
        refine z_iast (w_Mo G a (Mo_s_shownToday vm (upd (Mo_shownToday vm) (x3).toNatClampNeg ((Mo_image vm) (((x2 + (70 : Int32)) + x3)).toNatClampNeg)))) F 4 rfl h9 rfl dX7_restore_188 ?_
        obtain ⟨x3_7, e9⟩ : ∃ z : Int32, z = x3 + 1 := ⟨_, rfl⟩
        have h := h x3_7 e9
        refine z_iinc (v := x3_7) [(3, .int x3_7), (0, .ref (a 0)), (2, .int x2)] F dX7_restore_189 2 rfl (by rw [e9]; rfl) (by decide) rfl ?_
        refine z_goto 167 F dX7_restore_192 (by decide) ?_
        exact z_lv [1, 2, 0] rfl (ih167 (Mo_s_shownToday vm (upd (Mo_shownToday vm) (x3).toNatClampNeg ((Mo_image vm) (((x2 + (70 : Int32)) + x3)).toNatClampNeg))) x2 x3_7 h)
  have t136 : ∀ (n : Nat) (vm : Mo) (x2 : Int32) (x3 : Int32), wpX7_restore_L136 Q n vm x2 x3 → Z E 4 0 0 (w_Mo G a vm) [(0, .ref (a 0)), (2, .int x2), (3, .int x3)] 136 [] := by
    intro n
    induction n with
    | zero => intro vm x2 x3 h; exact h.elim
    | succ n ihQ =>
      have ih136 : ∀ (vm : Mo) (x2 : Int32) (x3 : Int32), wpX7_restore_L136 Q n vm x2 x3 → Z E 4 0 0 (w_Mo G a vm) [(0, .ref (a 0)), (2, .int x2), (3, .int x3)] 136 [] := ihQ
      intro vm x2 x3 h
      have h : wpX7_restore_H136 Q (wpX7_restore_L136 Q n) vm x2 x3 := h
      generalize wpX7_restore_L136 Q n = K136 at h ih136
      clear ihQ
      unfold wpX7_restore_H136 at h
      refine z_iload_n F dX7_restore_136 rfl 2 rfl ?_
      refine z_bipush (v := 16) F dX7_restore_137 rfl ?_
      refine z_icmp_ge 165 F dX7_restore_139 (by decide) (fun c9 => ?_) (fun c9 => ?_)
      · have h := h.1 c9
        refine z_iconst (v := 0) F dX7_restore_165 rfl ?_
        refine z_istore_n [(3, .int (0 : Int32)), (0, .ref (a 0)), (2, .int x2)] F dX7_restore_166 rfl (by decide) rfl ?_
        obtain ⟨n9, h⟩ := h
        exact z_lv [1, 2, 0] rfl (t167 n9 vm x2 (0 : Int32) h)
      · have h := h.2 c9
        refine z_aload_n F dX7_restore_142 rfl 0 rfl ?_
        refine z_get (ci := 7) F iX7 0 rfl rfl 11 (by decide) f6 rfl rfl dX7_restore_143 ?_
        refine z_iload_n F dX7_restore_146 rfl 2 rfl ?_
        refine z_aload_n F dX7_restore_147 rfl 0 rfl ?_
        refine z_get (ci := 7) F iX7 0 rfl rfl 28 (by decide) f2 rfl rfl dX7_restore_148 ?_
        refine z_iload_n F dX7_restore_151 rfl 1 rfl ?_
        refine z_bipush (v := 53) F dX7_restore_152 rfl ?_
        refine z_iadd F dX7_restore_154 ?_
        refine z_iload_n F dX7_restore_155 rfl 2 rfl ?_
        refine z_iadd F dX7_restore_156 ?_
        have h9 := h.1
        have h := h.2
        refine z_iald F 15 rfl h9 dX7_restore_157 ?_
        have h9 := h.1
        have h := h.2
        refine z_iast (w_Mo G a (Mo_s_sight vm (upd (Mo_sight vm) (x3).toNatClampNeg ((Mo_image vm) (((x2 + (53 : Int32)) + x3)).toNatClampNeg)))) F 6 rfl h9 rfl dX7_restore_158 ?_
        obtain ⟨x3_6, e9⟩ : ∃ z : Int32, z = x3 + 1 := ⟨_, rfl⟩
        have h := h x3_6 e9
        refine z_iinc (v := x3_6) [(3, .int x3_6), (0, .ref (a 0)), (2, .int x2)] F dX7_restore_159 2 rfl (by rw [e9]; rfl) (by decide) rfl ?_
        refine z_goto 136 F dX7_restore_162 (by decide) ?_
        exact z_lv [1, 2, 0] rfl (ih136 (Mo_s_sight vm (upd (Mo_sight vm) (x3).toNatClampNeg ((Mo_image vm) (((x2 + (53 : Int32)) + x3)).toNatClampNeg))) x2 x3_6 h)
  have t105 : ∀ (n : Nat) (vm : Mo) (x2 : Int32) (x3 : Int32), wpX7_restore_L105 Q n vm x2 x3 → Z E 4 0 0 (w_Mo G a vm) [(0, .ref (a 0)), (2, .int x2), (3, .int x3)] 105 [] := by
    intro n
    induction n with
    | zero => intro vm x2 x3 h; exact h.elim
    | succ n ihQ =>
      have ih105 : ∀ (vm : Mo) (x2 : Int32) (x3 : Int32), wpX7_restore_L105 Q n vm x2 x3 → Z E 4 0 0 (w_Mo G a vm) [(0, .ref (a 0)), (2, .int x2), (3, .int x3)] 105 [] := ihQ
      intro vm x2 x3 h
      have h : wpX7_restore_H105 Q (wpX7_restore_L105 Q n) vm x2 x3 := h
      generalize wpX7_restore_L105 Q n = K105 at h ih105
      clear ihQ
      unfold wpX7_restore_H105 at h
      refine z_iload_n F dX7_restore_105 rfl 2 rfl ?_
      refine z_bipush (v := 27) F dX7_restore_106 rfl ?_
      refine z_icmp_ge 134 F dX7_restore_108 (by decide) (fun c9 => ?_) (fun c9 => ?_)
      · have h := h.1 c9
        refine z_iconst (v := 0) F dX7_restore_134 rfl ?_
        refine z_istore_n [(3, .int (0 : Int32)), (0, .ref (a 0)), (2, .int x2)] F dX7_restore_135 rfl (by decide) rfl ?_
        obtain ⟨n9, h⟩ := h
        exact z_lv [1, 2, 0] rfl (t136 n9 vm x2 (0 : Int32) h)
      · have h := h.2 c9
        refine z_aload_n F dX7_restore_111 rfl 0 rfl ?_
        refine z_get (ci := 7) F iX7 0 rfl rfl 9 (by decide) f5 rfl rfl dX7_restore_112 ?_
        refine z_iload_n F dX7_restore_115 rfl 2 rfl ?_
        refine z_aload_n F dX7_restore_116 rfl 0 rfl ?_
        refine z_get (ci := 7) F iX7 0 rfl rfl 28 (by decide) f2 rfl rfl dX7_restore_117 ?_
        refine z_iload_n F dX7_restore_120 rfl 1 rfl ?_
        refine z_bipush (v := 26) F dX7_restore_121 rfl ?_
        refine z_iadd F dX7_restore_123 ?_
        refine z_iload_n F dX7_restore_124 rfl 2 rfl ?_
        refine z_iadd F dX7_restore_125 ?_
        have h9 := h.1
        have h := h.2
        refine z_iald F 15 rfl h9 dX7_restore_126 ?_
        have h9 := h.1
        have h := h.2
        refine z_iast (w_Mo G a (Mo_s_past vm (upd (Mo_past vm) (x3).toNatClampNeg ((Mo_image vm) (((x2 + (26 : Int32)) + x3)).toNatClampNeg)))) F 5 rfl h9 rfl dX7_restore_127 ?_
        obtain ⟨x3_5, e9⟩ : ∃ z : Int32, z = x3 + 1 := ⟨_, rfl⟩
        have h := h x3_5 e9
        refine z_iinc (v := x3_5) [(3, .int x3_5), (0, .ref (a 0)), (2, .int x2)] F dX7_restore_128 2 rfl (by rw [e9]; rfl) (by decide) rfl ?_
        refine z_goto 105 F dX7_restore_131 (by decide) ?_
        exact z_lv [1, 2, 0] rfl (ih105 (Mo_s_past vm (upd (Mo_past vm) (x3).toNatClampNeg ((Mo_image vm) (((x2 + (26 : Int32)) + x3)).toNatClampNeg))) x2 x3_5 h)
  have t74 : ∀ (n : Nat) (vm : Mo) (x2 : Int32) (x3 : Int32), wpX7_restore_L74 Q n vm x2 x3 → Z E 4 0 0 (w_Mo G a vm) [(0, .ref (a 0)), (2, .int x2), (3, .int x3)] 74 [] := by
    intro n
    induction n with
    | zero => intro vm x2 x3 h; exact h.elim
    | succ n ihQ =>
      have ih74 : ∀ (vm : Mo) (x2 : Int32) (x3 : Int32), wpX7_restore_L74 Q n vm x2 x3 → Z E 4 0 0 (w_Mo G a vm) [(0, .ref (a 0)), (2, .int x2), (3, .int x3)] 74 [] := ihQ
      intro vm x2 x3 h
      have h : wpX7_restore_H74 Q (wpX7_restore_L74 Q n) vm x2 x3 := h
      generalize wpX7_restore_L74 Q n = K74 at h ih74
      clear ihQ
      unfold wpX7_restore_H74 at h
      refine z_iload_n F dX7_restore_74 rfl 2 rfl ?_
      refine z_bipush (v := 18) F dX7_restore_75 rfl ?_
      refine z_icmp_ge 103 F dX7_restore_77 (by decide) (fun c9 => ?_) (fun c9 => ?_)
      · have h := h.1 c9
        refine z_iconst (v := 0) F dX7_restore_103 rfl ?_
        refine z_istore_n [(3, .int (0 : Int32)), (0, .ref (a 0)), (2, .int x2)] F dX7_restore_104 rfl (by decide) rfl ?_
        obtain ⟨n9, h⟩ := h
        exact z_lv [1, 2, 0] rfl (t105 n9 vm x2 (0 : Int32) h)
      · have h := h.2 c9
        refine z_aload_n F dX7_restore_80 rfl 0 rfl ?_
        refine z_get (ci := 7) F iX7 0 rfl rfl 2 (by decide) f4 rfl rfl dX7_restore_81 ?_
        refine z_iload_n F dX7_restore_84 rfl 2 rfl ?_
        refine z_aload_n F dX7_restore_85 rfl 0 rfl ?_
        refine z_get (ci := 7) F iX7 0 rfl rfl 28 (by decide) f2 rfl rfl dX7_restore_86 ?_
        refine z_iload_n F dX7_restore_89 rfl 1 rfl ?_
        refine z_bipush (v := 8) F dX7_restore_90 rfl ?_
        refine z_iadd F dX7_restore_92 ?_
        refine z_iload_n F dX7_restore_93 rfl 2 rfl ?_
        refine z_iadd F dX7_restore_94 ?_
        have h9 := h.1
        have h := h.2
        refine z_iald F 15 rfl h9 dX7_restore_95 ?_
        have h9 := h.1
        have h := h.2
        refine z_iast (w_Mo G a (Mo_s_dress vm (upd (Mo_dress vm) (x3).toNatClampNeg ((Mo_image vm) (((x2 + (8 : Int32)) + x3)).toNatClampNeg)))) F 3 rfl h9 rfl dX7_restore_96 ?_
        obtain ⟨x3_4, e9⟩ : ∃ z : Int32, z = x3 + 1 := ⟨_, rfl⟩
        have h := h x3_4 e9
        refine z_iinc (v := x3_4) [(3, .int x3_4), (0, .ref (a 0)), (2, .int x2)] F dX7_restore_97 2 rfl (by rw [e9]; rfl) (by decide) rfl ?_
        refine z_goto 74 F dX7_restore_100 (by decide) ?_
        exact z_lv [1, 2, 0] rfl (ih74 (Mo_s_dress vm (upd (Mo_dress vm) (x3).toNatClampNeg ((Mo_image vm) (((x2 + (8 : Int32)) + x3)).toNatClampNeg))) x2 x3_4 h)
  have t31 : ∀ (n : Nat) (vm : Mo) (x2 : Int32) (x3 : Int32), wpX7_restore_L31 Q n vm x2 x3 → Z E 4 0 0 (w_Mo G a vm) [(0, .ref (a 0)), (2, .int x2), (3, .int x3)] 31 [] := by
    intro n
    induction n with
    | zero => intro vm x2 x3 h; exact h.elim
    | succ n ihQ =>
      have ih31 : ∀ (vm : Mo) (x2 : Int32) (x3 : Int32), wpX7_restore_L31 Q n vm x2 x3 → Z E 4 0 0 (w_Mo G a vm) [(0, .ref (a 0)), (2, .int x2), (3, .int x3)] 31 [] := ihQ
      intro vm x2 x3 h
      have h : wpX7_restore_H31 Q (wpX7_restore_L31 Q n) vm x2 x3 := h
      generalize wpX7_restore_L31 Q n = K31 at h ih31
      clear ihQ
      unfold wpX7_restore_H31 at h
      refine z_iload_n F dX7_restore_31 rfl 2 rfl ?_
      refine z_iconst (v := 4) F dX7_restore_32 rfl ?_
      refine z_icmp_ge 72 F dX7_restore_33 (by decide) (fun c9 => ?_) (fun c9 => ?_)
      · have h := h.1 c9
        refine z_iconst (v := 0) F dX7_restore_72 rfl ?_
        refine z_istore_n [(3, .int (0 : Int32)), (0, .ref (a 0)), (2, .int x2)] F dX7_restore_73 rfl (by decide) rfl ?_
        obtain ⟨n9, h⟩ := h
        exact z_lv [1, 2, 0] rfl (t74 n9 vm x2 (0 : Int32) h)
      · have h := h.2 c9
        refine z_aload_n F dX7_restore_36 rfl 0 rfl ?_
        refine z_get (ci := 7) F iX7 0 rfl rfl 0 (by decide) f1 rfl rfl dX7_restore_37 ?_
        refine z_iload_n F dX7_restore_40 rfl 2 rfl ?_
        refine z_aload_n F dX7_restore_41 rfl 0 rfl ?_
        refine z_get (ci := 7) F iX7 0 rfl rfl 28 (by decide) f2 rfl rfl dX7_restore_42 ?_
        refine z_iload_n F dX7_restore_45 rfl 1 rfl ?_
        refine z_iload_n F dX7_restore_46 rfl 2 rfl ?_
        refine z_iadd F dX7_restore_47 ?_
        have h9 := h.1
        have h := h.2
        refine z_iald F 15 rfl h9 dX7_restore_48 ?_
        have h9 := h.1
        have h := h.2
        refine z_iast (w_Mo G a (Mo_s_off vm (upd (Mo_off vm) (x3).toNatClampNeg ((Mo_image vm) ((x2 + x3)).toNatClampNeg)))) F 1 rfl h9 rfl dX7_restore_49 ?_
        refine z_aload_n F dX7_restore_50 rfl 0 rfl ?_
        refine z_get (ci := 7) F iX7 0 rfl rfl 1 (by decide) f3 rfl rfl dX7_restore_51 ?_
        refine z_iload_n F dX7_restore_54 rfl 2 rfl ?_
        refine z_aload_n F dX7_restore_55 rfl 0 rfl ?_
        refine z_get (ci := 7) F iX7 0 rfl rfl 28 (by decide) f2 rfl rfl dX7_restore_56 ?_
        refine z_iload_n F dX7_restore_59 rfl 1 rfl ?_
        refine z_iconst (v := 4) F dX7_restore_60 rfl ?_
        refine z_iadd F dX7_restore_61 ?_
        refine z_iload_n F dX7_restore_62 rfl 2 rfl ?_
        refine z_iadd F dX7_restore_63 ?_
        have h9 := h.1
        have h := h.2
        refine z_iald (f := (Mo_image vm)) F 15 rfl h9 dX7_restore_64 ?_
        have h9 := h.1
        have h := h.2
        refine z_iast (f := (Mo_keeps vm)) (w_Mo G a (Mo_s_keeps (Mo_s_off vm (upd (Mo_off vm) (x3).toNatClampNeg ((Mo_image vm) ((x2 + x3)).toNatClampNeg))) (upd (Mo_keeps vm) (x3).toNatClampNeg ((Mo_image vm) (((x2 + (4 : Int32)) + x3)).toNatClampNeg)))) F 2 rfl h9 rfl dX7_restore_65 ?_
        obtain ⟨x3_3, e9⟩ : ∃ z : Int32, z = x3 + 1 := ⟨_, rfl⟩
        have h := h x3_3 e9
        refine z_iinc (v := x3_3) [(3, .int x3_3), (0, .ref (a 0)), (2, .int x2)] F dX7_restore_66 2 rfl (by rw [e9]; rfl) (by decide) rfl ?_
        refine z_goto 31 F dX7_restore_69 (by decide) ?_
        exact z_lv [1, 2, 0] rfl (ih31 (Mo_s_keeps (Mo_s_off vm (upd (Mo_off vm) (x3).toNatClampNeg ((Mo_image vm) ((x2 + x3)).toNatClampNeg))) (upd (Mo_keeps vm) (x3).toNatClampNeg ((Mo_image vm) (((x2 + (4 : Int32)) + x3)).toNatClampNeg))) x2 x3_3 h)
  unfold wpX7_restore at h
  refine z_iload_n F dX7_restore_0 rfl 1 rfl ?_
  refine z_iconst (v := 0) F dX7_restore_1 rfl ?_
  refine z_iconst (v := 1) F dX7_restore_2 rfl ?_
  refine z_callSi (fun _ => w_Mo G a vm) F (mX7_in G p1 (0 : Int32) (1 : Int32) _ h) gX7_restore_X7_in rfl hdX7_in ⟨rfl, rfl, Nat.le_of_ble_eq_true rfl, Nat.le_of_ble_eq_true rfl, Nat.le_of_ble_eq_true rfl, Nat.le_of_ble_eq_true rfl⟩ [] [0, 1, 2, 3, 4, 5, 6, 7, 8, 9, 10, 11, 12, 13, 14, 15, 16] [0, 1, 2, 3, 4, 5, 6, 7, 8, 9, 10, 11, 12, 13, 14, 15, 16] rfl rfl (by decide) (fun _ => rfl) rfl (Nat.le_of_ble_eq_true rfl) dX7_restore_3 (fun r_1 u9 h => ?_)
  refine z_if_ne 12 F dX7_restore_6 (by decide) (fun c9 => ?_) (fun c9 => ?_)
  · have h := h.1 c9
    refine z_aload_n F dX7_restore_12 rfl 0 rfl ?_
    refine z_get (ci := 7) F iX7 0 rfl rfl 29 (by decide) f0 rfl rfl dX7_restore_13 ?_
    refine z_iload_n F dX7_restore_16 rfl 1 rfl ?_
    have h9 := h.1
    have h := h.2
    refine z_zald F 16 rfl h9 dX7_restore_17 ?_
    refine z_if_ne 24 F dX7_restore_18 (by decide) (fun c9 => ?_) (fun c9 => ?_)
    · have h := h.1 c9
      refine z_bipush (v := 100) F dX7_restore_24 rfl ?_
      refine z_iload_n F dX7_restore_26 rfl 1 rfl ?_
      refine z_imul F dX7_restore_27 ?_
      refine z_topi (fun x2_2 e9 => ?_)
      have h := h x2_2 e9
      refine z_istore_n [(2, .int x2_2), (0, .ref (a 0)), (1, .int p1)] F dX7_restore_28 rfl (by decide) rfl ?_
      refine z_iconst (v := 0) F dX7_restore_29 rfl ?_
      refine z_istore_n [(3, .int (0 : Int32)), (2, .int x2_2), (0, .ref (a 0)), (1, .int p1)] F dX7_restore_30 rfl (by decide) rfl ?_
      obtain ⟨n9, h⟩ := h
      exact z_lv [2, 1, 0] rfl (t31 n9 vm x2_2 (0 : Int32) h)
    · have h := h.2 c9
      refine z_bipush (v := -3) F dX7_restore_21 rfl ?_
      exact hret (-3 : Int32) vm _ _ h dX7_restore_23
  · have h := h.2 c9
    refine z_bipush (v := -2) F dX7_restore_9 rfl ?_
    exact hret (-2 : Int32) vm _ _ h dX7_restore_11
abbrev rmX7_told : Room := { frames := 1, cells := 0, slots := 0, locals := 22 }
set_option maxRecDepth 100000 in
set_option maxHeartbeats 4000000 in
theorem mX7_told (G : ZG) (a : Nat → Nat) (vm : Mo) (p1 : Int32) (Q : Int32 → Mo → Prop) (h : wpX7_told vm p1 Q) : ZMi G yX7_told wsX7_told rmX7_told [.ref (a 0), .int p1] (w_Mo G a vm) (fun vm : Mo => w_Mo G a vm) (Q) := by
  refine z_ofi (cc := cX7_told) (N := 3) (lv := [(0, .ref (a 0)), (1, .int p1)]) (by decide) rfl (Nat.le_of_ble_eq_true rfl) rfl (fun E F hret => ?_)
  have F : ZF E 3 cX7_told RX7 wsX7_told rmX7_told G := F
  have f0 : ZW E (.fieldLink RX7 67 "ColourEchoModel" "signs" "I") := F.at 4 rfl
  have f1 : ZW E (.fieldLink RX7 96 "ColourEchoModel" "day" "I") := F.at 5 rfl
  have f2 : ZW E (.fieldLink RX7 19 "ColourEchoModel" "limit" "I") := F.at 6 rfl
  have f3 : ZW E (.fieldLink RX7 170 "ColourEchoModel" "sights" "I") := F.at 7 rfl
  have f4 : ZW E (.fieldLink RX7 78 "ColourEchoModel" "fog" "I") := F.at 8 rfl
  have f5 : ZW E (.fieldLink RX7 84 "ColourEchoModel" "snow" "I") := F.at 9 rfl
  have f6 : ZW E (.fieldLink RX7 90 "ColourEchoModel" "out" "I") := F.at 10 rfl
  have f7 : ZW E (.fieldLink RX7 13 "ColourEchoModel" "keeps" "[I") := F.at 3 rfl
  have f8 : ZW E (.fieldLink RX7 7 "ColourEchoModel" "off" "[I") := F.at 2 rfl
  have f9 : ZW E (.fieldLink RX7 16 "ColourEchoModel" "dress" "[I") := F.at 1 rfl
  have iX7 : ∀ x ∈ u_ws RX7 TX7 30, x ∈ wsX7_told := fun _ h => List.mem_cons_of_mem _ (List.mem_append_right _ h)
  unfold wpX7_told at h
  refine z_iload_n F dX7_told_0 rfl 1 rfl ?_
  refine z_bipush (v := 100) F dX7_told_1 rfl ?_
  refine z_icmp_lt 49 F dX7_told_3 (by decide) (fun c9 => ?_) (fun c9 => ?_)
  · have h := h.1 c9
    refine z_iload_n F dX7_told_49 rfl 1 rfl ?_
    refine z_bipush (v := 10) F dX7_told_50 rfl ?_
    refine z_icmp_lt 107 F dX7_told_52 (by decide) (fun c9 => ?_) (fun c9 => ?_)
    · have h := h.1 c9
      refine z_iload_n F dX7_told_107 rfl 1 rfl ?_
      by_cases c0 : p1 = 0
      · have h := h.1 c0
        refine z_tableIn (off := 40) 148 F dX7_told_108 (by rw [c0] <;> decide) (by rw [c0] <;> decide) (by rw [c0] <;> decide) (by decide) ?_
        refine z_aload_n F dX7_told_148 rfl 0 rfl ?_
        refine z_get (ci := 7) F iX7 0 rfl rfl 12 (by decide) f0 rfl rfl dX7_told_149 ?_
        exact hret (Mo_signs vm) vm _ _ h dX7_told_152
      have h := h.2 c0
      by_cases c1 : p1 = 1
      · have h := h.1 c1
        refine z_tableIn (off := 45) 153 F dX7_told_108 (by rw [c1] <;> decide) (by rw [c1] <;> decide) (by rw [c1] <;> decide) (by decide) ?_
        refine z_aload_n F dX7_told_153 rfl 0 rfl ?_
        refine z_get (ci := 7) F iX7 0 rfl rfl 4 (by decide) f1 rfl rfl dX7_told_154 ?_
        exact hret (Mo_day vm) vm _ _ h dX7_told_157
      have h := h.2 c1
      by_cases c2 : p1 = 2
      · have h := h.1 c2
        refine z_tableIn (off := 50) 158 F dX7_told_108 (by rw [c2] <;> decide) (by rw [c2] <;> decide) (by rw [c2] <;> decide) (by decide) ?_
        refine z_aload_n F dX7_told_158 rfl 0 rfl ?_
        refine z_get (ci := 7) F iX7 0 rfl rfl 3 (by decide) f2 rfl rfl dX7_told_159 ?_
        exact hret (Mo_limit vm) vm _ _ h dX7_told_162
      have h := h.2 c2
      by_cases c3 : p1 = 3
      · have h := h.1 c3
        refine z_tableIn (off := 55) 163 F dX7_told_108 (by rw [c3] <;> decide) (by rw [c3] <;> decide) (by rw [c3] <;> decide) (by decide) ?_
        refine z_aload_n F dX7_told_163 rfl 0 rfl ?_
        refine z_get (ci := 7) F iX7 0 rfl rfl 10 (by decide) f3 rfl rfl dX7_told_164 ?_
        exact hret (Mo_sights vm) vm _ _ h dX7_told_167
      have h := h.2 c3
      by_cases c4 : p1 = 4
      · have h := h.1 c4
        refine z_tableIn (off := 60) 168 F dX7_told_108 (by rw [c4] <;> decide) (by rw [c4] <;> decide) (by rw [c4] <;> decide) (by decide) ?_
        refine z_aload_n F dX7_told_168 rfl 0 rfl ?_
        refine z_get (ci := 7) F iX7 0 rfl rfl 6 (by decide) f4 rfl rfl dX7_told_169 ?_
        exact hret (Mo_fog vm) vm _ _ h dX7_told_172
      have h := h.2 c4
      by_cases c5 : p1 = 5
      · have h := h.1 c5
        refine z_tableIn (off := 65) 173 F dX7_told_108 (by rw [c5] <;> decide) (by rw [c5] <;> decide) (by rw [c5] <;> decide) (by decide) ?_
        refine z_aload_n F dX7_told_173 rfl 0 rfl ?_
        refine z_get (ci := 7) F iX7 0 rfl rfl 7 (by decide) f5 rfl rfl dX7_told_174 ?_
        exact hret (Mo_snow vm) vm _ _ h dX7_told_177
      have h := h.2 c5
      refine z_tableOut 178 F dX7_told_108 (by have e0 := lv_neT (a := 0) c0 rfl; have e1 := lv_neT (a := 1) c1 rfl; have e2 := lv_neT (a := 2) c2 rfl; have e3 := lv_neT (a := 3) c3 rfl; have e4 := lv_neT (a := 4) c4 rfl; have e5 := lv_neT (a := 5) c5 rfl; omega) (by decide) ?_
      refine z_iload_n F dX7_told_178 rfl 1 rfl ?_
      refine z_bipush (v := 6) F dX7_told_179 rfl ?_
      refine z_icmp_ne 191 F dX7_told_181 (by decide) (fun c9 => ?_) (fun c9 => ?_)
      · have h := h.1 c9
        refine z_bipush (v := -2) F dX7_told_191 rfl ?_
        exact hret (-2 : Int32) vm _ _ h dX7_told_193
      · have h := h.2 c9
        refine z_aload_n F dX7_told_184 rfl 0 rfl ?_
        refine z_get (ci := 7) F iX7 0 rfl rfl 8 (by decide) f6 rfl rfl dX7_told_185 ?_
        refine z_goto 193 F dX7_told_188 (by decide) ?_
        exact hret (Mo_out vm) vm _ _ h dX7_told_193
    · have h := h.2 c9
      refine z_iload_n F dX7_told_55 rfl 1 rfl ?_
      refine z_bipush (v := 10) F dX7_told_56 rfl ?_
      refine z_idiv F dX7_told_58 (by decide) ?_
      refine z_iconst (v := 1) F dX7_told_59 rfl ?_
      refine z_isub F dX7_told_60 ?_
      refine z_topi (fun x2_1 e9 => ?_)
      have h := h x2_1 e9
      refine z_istore_n [(2, .int x2_1), (0, .ref (a 0)), (1, .int p1)] F dX7_told_61 rfl (by decide) rfl ?_
      refine z_iload_n F dX7_told_62 rfl 0 rfl ?_
      refine z_iconst (v := 0) F dX7_told_63 rfl ?_
      refine z_iconst (v := 3) F dX7_told_64 rfl ?_
      refine z_callSi (fun _ => w_Mo G a vm) F (mX7_in G x2_1 (0 : Int32) (3 : Int32) _ h) gX7_told_X7_in rfl hdX7_in ⟨rfl, rfl, Nat.le_of_ble_eq_true rfl, Nat.le_of_ble_eq_true rfl, Nat.le_of_ble_eq_true rfl, Nat.le_of_ble_eq_true rfl⟩ [] [0, 1, 2, 3, 4, 5, 6, 7, 8, 9, 10, 11, 12, 13, 14, 15, 16] [0, 1, 2, 3, 4, 5, 6, 7, 8, 9, 10, 11, 12, 13, 14, 15, 16] rfl rfl (by decide) (fun _ => rfl) rfl (Nat.le_of_ble_eq_true rfl) dX7_told_65 (fun r_2 u9 h => ?_)
      refine z_if_eq 79 F dX7_told_68 (by decide) (fun c9 => ?_) (fun c9 => ?_)
      · have h := h.1 c9
        refine z_bipush (v := -2) F dX7_told_79 rfl ?_
        refine z_goto 106 F dX7_told_81 (by decide) ?_
        exact hret (-2 : Int32) vm _ _ h dX7_told_106
      · have h := h.2 c9
        refine z_iload_n F dX7_told_71 rfl 2 rfl ?_
        refine z_bipush (v := 10) F dX7_told_72 rfl ?_
        refine z_irem F dX7_told_74 (by decide) ?_
        refine z_iconst (v := 1) F dX7_told_75 rfl ?_
        refine z_icmp_le 84 F dX7_told_76 (by decide) (fun c9 => ?_) (fun c9 => ?_)
        · have h := h.1 c9
          refine z_iload_n F dX7_told_84 rfl 2 rfl ?_
          refine z_bipush (v := 10) F dX7_told_85 rfl ?_
          refine z_irem F dX7_told_87 (by decide) ?_
          refine z_if_ne 100 F dX7_told_88 (by decide) (fun c9 => ?_) (fun c9 => ?_)
          · have h := h.1 c9
            refine z_aload_n F dX7_told_100 rfl 1 rfl ?_
            refine z_get (ci := 7) F iX7 0 rfl rfl 1 (by decide) f7 rfl rfl dX7_told_101 ?_
            refine z_iload_n F dX7_told_104 rfl 0 rfl ?_
            have h9 := h.1
            have h := h.2
            refine z_iald F 2 rfl h9 dX7_told_105 ?_
            exact hret ((Mo_keeps vm) (x2_1).toNatClampNeg) vm _ _ h dX7_told_106
          · have h := h.2 c9
            refine z_aload_n F dX7_told_91 rfl 1 rfl ?_
            refine z_get (ci := 7) F iX7 0 rfl rfl 0 (by decide) f8 rfl rfl dX7_told_92 ?_
            refine z_iload_n F dX7_told_95 rfl 0 rfl ?_
            have h9 := h.1
            have h := h.2
            refine z_iald F 1 rfl h9 dX7_told_96 ?_
            refine z_goto 106 F dX7_told_97 (by decide) ?_
            exact hret ((Mo_off vm) (x2_1).toNatClampNeg) vm _ _ h dX7_told_106
        · have h := h.2 c9
          refine z_bipush (v := -2) F dX7_told_79 rfl ?_
          refine z_goto 106 F dX7_told_81 (by decide) ?_
          exact hret (-2 : Int32) vm _ _ h dX7_told_106
  · have h := h.2 c9
    refine z_iload_n F dX7_told_6 rfl 1 rfl ?_
    refine z_bipush (v := 100) F dX7_told_7 rfl ?_
    refine z_idiv F dX7_told_9 (by decide) ?_
    refine z_iconst (v := 1) F dX7_told_10 rfl ?_
    refine z_isub F dX7_told_11 ?_
    refine z_topi (fun x2_3 e9 => ?_)
    have h := h x2_3 e9
    refine z_istore_n [(2, .int x2_3), (0, .ref (a 0)), (1, .int p1)] F dX7_told_12 rfl (by decide) rfl ?_
    refine z_iload_n F dX7_told_13 rfl 0 rfl ?_
    refine z_iconst (v := 0) F dX7_told_14 rfl ?_
    refine z_iconst (v := 5) F dX7_told_15 rfl ?_
    refine z_callSi (fun _ => w_Mo G a vm) F (mX7_in G x2_3 (0 : Int32) (5 : Int32) _ h) gX7_told_X7_in rfl hdX7_in ⟨rfl, rfl, Nat.le_of_ble_eq_true rfl, Nat.le_of_ble_eq_true rfl, Nat.le_of_ble_eq_true rfl, Nat.le_of_ble_eq_true rfl⟩ [] [0, 1, 2, 3, 4, 5, 6, 7, 8, 9, 10, 11, 12, 13, 14, 15, 16] [0, 1, 2, 3, 4, 5, 6, 7, 8, 9, 10, 11, 12, 13, 14, 15, 16] rfl rfl (by decide) (fun _ => rfl) rfl (Nat.le_of_ble_eq_true rfl) dX7_told_16 (fun r_4 u9 h => ?_)
    refine z_if_eq 46 F dX7_told_19 (by decide) (fun c9 => ?_) (fun c9 => ?_)
    · have h := h.1 c9
      refine z_bipush (v := -2) F dX7_told_46 rfl ?_
      exact hret (-2 : Int32) vm _ _ h dX7_told_48
    · have h := h.2 c9
      refine z_iload_n F dX7_told_22 rfl 2 rfl ?_
      refine z_bipush (v := 100) F dX7_told_23 rfl ?_
      refine z_irem F dX7_told_25 (by decide) ?_
      refine z_iconst (v := 3) F dX7_told_26 rfl ?_
      refine z_icmp_ge 46 F dX7_told_27 (by decide) (fun c9 => ?_) (fun c9 => ?_)
      · have h := h.1 c9
        refine z_bipush (v := -2) F dX7_told_46 rfl ?_
        exact hret (-2 : Int32) vm _ _ h dX7_told_48
      · have h := h.2 c9
        refine z_aload_n F dX7_told_30 rfl 1 rfl ?_
        refine z_get (ci := 7) F iX7 0 rfl rfl 2 (by decide) f9 rfl rfl dX7_told_31 ?_
        refine z_iconst (v := 3) F dX7_told_34 rfl ?_
        refine z_iload_n F dX7_told_35 rfl 0 rfl ?_
        refine z_imul F dX7_told_36 ?_
        refine z_iload_n F dX7_told_37 rfl 2 rfl ?_
        refine z_bipush (v := 100) F dX7_told_38 rfl ?_
        refine z_irem F dX7_told_40 (by decide) ?_
        refine z_iadd F dX7_told_41 ?_
        have h9 := h.1
        have h := h.2
        refine z_iald F 3 rfl h9 dX7_told_42 ?_
        refine z_goto 48 F dX7_told_43 (by decide) ?_
        exact hret ((Mo_dress vm) ((((3 : Int32) * x2_3) + (p1 - p1 / (100 : Int32) * (100 : Int32)))).toNatClampNeg) vm _ _ h dX7_told_48
