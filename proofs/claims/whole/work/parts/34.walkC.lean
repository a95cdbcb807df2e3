abbrev rmX6_wall : Room := { frames := 2, cells := 0, slots := 0, locals := 42 }
set_option maxRecDepth 100000 in
set_option maxHeartbeats 4000000 in
theorem mX6_wall (G : ZG) (a : Nat → Nat) (vg : Gr) (p1 : Int32) (p2 : Int32) (p3 : Int32) (Q : Int32 → Gr → Prop) (h : wpX6_wall vg p1 p2 p3 Q) : ZMi G yX6_wall wsX6_wall rmX6_wall [.ref (a 0), .int p1, .int p2, .int p3] (wCE_g G a vg) (fun vg : Gr => wCE_g G a vg) (Q) := by
  refine z_ofi (cc := cX6_wall) (N := 5) (lv := [(0, .ref (a 0)), (1, .int p1), (2, .int p2), (3, .int p3)]) (by decide) rfl (Nat.le_of_ble_eq_true rfl) rfl (fun E F hret => ?_)
  have F : ZF E 5 cX6_wall RX6 wsX6_wall rmX6_wall G := F
  have f0 : ZW E (.fieldLink RX6 12 "ColourEcho" "gorge" "LColourEcho$Gorge;") := F.at 1 rfl
  have f1 : ZW E (.fieldLink RX6 76 "ColourEcho$Gorge" "keeps" "[I") := F.at 2 rfl
  have f2 : ZW E (.fieldLink RX6 79 "ColourEcho$Gorge" "off" "[I") := F.at 3 rfl
  have iX3 : ∀ x ∈ u_ws RX3 TX3 13, x ∈ wsX6_wall := fun _ h => List.mem_cons_of_mem _ (List.mem_append_right _ h)
  have iX6 : ∀ x ∈ u_ws RX6 TX6 11, x ∈ wsX6_wall := fun _ h => List.mem_cons_of_mem _ (List.mem_append_left _ (List.mem_append_right _ h))
  unfold wpX6_wall at h
  refine z_iload_n F dX6_wall_0 rfl 1 rfl ?_
  refine z_callSi (fun _ => wCE_g G a vg) F (mX6_isWall G p1 _ h) gX6_wall_X6_isWall rfl hdX6_isWall ⟨rfl, rfl, Nat.le_of_ble_eq_true rfl, Nat.le_of_ble_eq_true rfl, Nat.le_of_ble_eq_true rfl, Nat.le_of_ble_eq_true rfl⟩ [] [0, 1, 2, 3, 4, 5, 6, 7, 8] [0, 1, 2, 3, 4, 5, 6, 7, 8] rfl rfl (by decide) (fun _ => rfl) rfl (Nat.le_of_ble_eq_true rfl) dX6_wall_1 (fun r_1 u9 h => ?_)
  refine z_if_ne 9 F dX6_wall_4 (by decide) (fun c9 => ?_) (fun c9 => ?_)
  · have h := h.1 c9
    refine z_iload_n F dX6_wall_9 rfl 2 rfl ?_
    refine z_iconst (v := 1) F dX6_wall_10 rfl ?_
    refine z_bipush (v := 9) F dX6_wall_11 rfl ?_
    refine z_callSi (fun _ => wCE_g G a vg) F (mX6_isWithin G p2 (1 : Int32) (9 : Int32) _ h) gX6_wall_X6_isWithin rfl hdX6_isWithin ⟨rfl, rfl, Nat.le_of_ble_eq_true rfl, Nat.le_of_ble_eq_true rfl, Nat.le_of_ble_eq_true rfl, Nat.le_of_ble_eq_true rfl⟩ [] [0, 1, 2, 3, 4, 5, 6, 7, 8] [0, 1, 2, 3, 4, 5, 6, 7, 8] rfl rfl (by decide) (fun _ => rfl) rfl (Nat.le_of_ble_eq_true rfl) dX6_wall_13 (fun r_2 u9 h => ?_)
    refine z_if_eq 29 F dX6_wall_16 (by decide) (fun c9 => ?_) (fun c9 => ?_)
    · have h := h.1 c9
      refine z_bipush (v := -2) F dX6_wall_29 rfl ?_
      exact hret (-2 : Int32) vg _ _ h dX6_wall_31
    · have h := h.2 c9
      refine z_iload_n F dX6_wall_19 rfl 3 rfl ?_
      refine z_iconst (v := 0) F dX6_wall_20 rfl ?_
      refine z_bipush (v := 9) F dX6_wall_21 rfl ?_
      refine z_callSi (fun _ => wCE_g G a vg) F (mX6_isWithin G p3 (0 : Int32) (9 : Int32) _ h) gX6_wall_X6_isWithin rfl hdX6_isWithin ⟨rfl, rfl, Nat.le_of_ble_eq_true rfl, Nat.le_of_ble_eq_true rfl, Nat.le_of_ble_eq_true rfl, Nat.le_of_ble_eq_true rfl⟩ [] [0, 1, 2, 3, 4, 5, 6, 7, 8] [0, 1, 2, 3, 4, 5, 6, 7, 8] rfl rfl (by decide) (fun _ => rfl) rfl (Nat.le_of_ble_eq_true rfl) dX6_wall_23 (fun r_3 u9 h => ?_)
      refine z_if_ne 32 F dX6_wall_26 (by decide) (fun c9 => ?_) (fun c9 => ?_)
      · have h := h.1 c9
        refine z_aload_n F dX6_wall_32 rfl 0 rfl ?_
        refine z_get (ci := 6) F iX6 0 rfl rfl 0 (by decide) f0 rfl rfl dX6_wall_33 ?_
        refine z_get (ci := 3) F iX3 1 rfl rfl 1 (by decide) f1 rfl rfl dX6_wall_36 ?_
        refine z_iload_n F dX6_wall_39 rfl 1 rfl ?_
        have h9 := h.1
        have h := h.2
        refine z_iald F 3 rfl h9 dX6_wall_40 ?_
        refine z_topi (fun x4_4 e9 => ?_)
        have h := h x4_4 e9
        refine z_istore [(4, .int x4_4), (0, .ref (a 0)), (1, .int p1), (2, .int p2), (3, .int p3)] F dX6_wall_41 (by decide) rfl ?_
        refine z_aload_n F dX6_wall_43 rfl 1 rfl ?_
        refine z_get (ci := 6) F iX6 0 rfl rfl 0 (by decide) f0 rfl rfl dX6_wall_44 ?_
        refine z_get (ci := 3) F iX3 1 rfl rfl 0 (by decide) f2 rfl rfl dX6_wall_47 ?_
        refine z_iload_n F dX6_wall_50 rfl 2 rfl ?_
        refine z_iload_n F dX6_wall_51 rfl 3 rfl ?_
        have h9 := h.1
        have h := h.2
        refine z_iast (wCE_g G a (Gr_s_off vg (upd (Gr_off vg) (p1).toNatClampNeg p2))) F 2 rfl h9 rfl dX6_wall_52 ?_
        refine z_aload_n F dX6_wall_53 rfl 1 rfl ?_
        refine z_get (ci := 6) F iX6 0 rfl rfl 0 (by decide) f0 rfl rfl dX6_wall_54 ?_
        refine z_get (ci := 3) F iX3 1 rfl rfl 1 (by decide) f1 rfl rfl dX6_wall_57 ?_
        refine z_iload_n F dX6_wall_60 rfl 2 rfl ?_
        refine z_iload_n F dX6_wall_61 rfl 4 rfl ?_
        have h9 := h.1
        have h := h.2
        refine z_iast (f := (Gr_keeps vg)) (wCE_g G a (Gr_s_keeps (Gr_s_off vg (upd (Gr_off vg) (p1).toNatClampNeg p2)) (upd (Gr_keeps vg) (p1).toNatClampNeg p3))) F 3 rfl h9 rfl dX6_wall_62 ?_
        refine z_iload F dX6_wall_63 0 rfl ?_
        exact hret x4_4 (Gr_s_keeps (Gr_s_off vg (upd (Gr_off vg) (p1).toNatClampNeg p2)) (upd (Gr_keeps vg) (p1).toNatClampNeg p3)) _ _ h dX6_wall_65
      · have h := h.2 c9
        refine z_bipush (v := -2) F dX6_wall_29 rfl ?_
        exact hret (-2 : Int32) vg _ _ h dX6_wall_31
  · have h := h.2 c9
    refine z_iconst (v := -1) F dX6_wall_7 rfl ?_
    exact hret (-1 : Int32) vg _ _ h dX6_wall_8
abbrev rmX6_dress : Room := { frames := 2, cells := 0, slots := 0, locals := 42 }
set_option maxRecDepth 100000 in
set_option maxHeartbeats 4000000 in
theorem mX6_dress (G : ZG) (a : Nat → Nat) (vg : Gr) (p1 : Int32) (p2 : Int32) (p3 : Int32) (p4 : Int32) (Q : Int32 → Gr → Prop) (h : wpX6_dress vg p1 p2 p3 p4 Q) : ZMi G yX6_dress wsX6_dress rmX6_dress [.ref (a 0), .int p1, .int p2, .int p3, .int p4] (wCE_g G a vg) (fun vg : Gr => wCE_g G a vg) (Q) := by
  refine z_ofi (cc := cX6_dress) (N := 6) (lv := [(0, .ref (a 0)), (1, .int p1), (2, .int p2), (3, .int p3), (4, .int p4)]) (by decide) rfl (Nat.le_of_ble_eq_true rfl) rfl (fun E F hret => ?_)
  have F : ZF E 6 cX6_dress RX6 wsX6_dress rmX6_dress G := F
  have f0 : ZW E (.fieldLink RX6 12 "ColourEcho" "gorge" "LColourEcho$Gorge;") := F.at 1 rfl
  have f1 : ZW E (.fieldLink RX6 89 "ColourEcho$Gorge" "dresses" "[I") := F.at 2 rfl
  have iX3 : ∀ x ∈ u_ws RX3 TX3 13, x ∈ wsX6_dress := fun _ h => List.mem_cons_of_mem _ (List.mem_append_right _ h)
  have iX6 : ∀ x ∈ u_ws RX6 TX6 11, x ∈ wsX6_dress := fun _ h => List.mem_cons_of_mem _ (List.mem_append_left _ (List.mem_append_right _ h))
  unfold wpX6_dress at h
  refine z_iload_n F dX6_dress_0 rfl 1 rfl ?_
  refine z_callSi (fun _ => wCE_g G a vg) F (mX6_isDress G p1 _ h) gX6_dress_X6_isDress rfl hdX6_isDress ⟨rfl, rfl, Nat.le_of_ble_eq_true rfl, Nat.le_of_ble_eq_true rfl, Nat.le_of_ble_eq_true rfl, Nat.le_of_ble_eq_true rfl⟩ [] [0, 1, 2, 3, 4, 5, 6, 7, 8] [0, 1, 2, 3, 4, 5, 6, 7, 8] rfl rfl (by decide) (fun _ => rfl) rfl (Nat.le_of_ble_eq_true rfl) dX6_dress_1 (fun r_1 u9 h => ?_)
  refine z_if_ne 9 F dX6_dress_4 (by decide) (fun c9 => ?_) (fun c9 => ?_)
  · have h := h.1 c9
    refine z_iload_n F dX6_dress_9 rfl 2 rfl ?_
    refine z_iconst (v := 0) F dX6_dress_10 rfl ?_
    refine z_bipush (v := 99) F dX6_dress_11 rfl ?_
    refine z_callSi (fun _ => wCE_g G a vg) F (mX6_isWithin G p2 (0 : Int32) (99 : Int32) _ h) gX6_dress_X6_isWithin rfl hdX6_isWithin ⟨rfl, rfl, Nat.le_of_ble_eq_true rfl, Nat.le_of_ble_eq_true rfl, Nat.le_of_ble_eq_true rfl, Nat.le_of_ble_eq_true rfl⟩ [] [0, 1, 2, 3, 4, 5, 6, 7, 8] [0, 1, 2, 3, 4, 5, 6, 7, 8] rfl rfl (by decide) (fun _ => rfl) rfl (Nat.le_of_ble_eq_true rfl) dX6_dress_13 (fun r_2 u9 h => ?_)
    refine z_if_eq 40 F dX6_dress_16 (by decide) (fun c9 => ?_) (fun c9 => ?_)
    · have h := h.1 c9
      refine z_bipush (v := -2) F dX6_dress_40 rfl ?_
      exact hret (-2 : Int32) vg _ _ h dX6_dress_42
    · have h := h.2 c9
      refine z_iload_n F dX6_dress_19 rfl 3 rfl ?_
      refine z_iconst (v := 0) F dX6_dress_20 rfl ?_
      refine z_bipush (v := 99) F dX6_dress_21 rfl ?_
      refine z_callSi (fun _ => wCE_g G a vg) F (mX6_isWithin G p3 (0 : Int32) (99 : Int32) _ h) gX6_dress_X6_isWithin rfl hdX6_isWithin ⟨rfl, rfl, Nat.le_of_ble_eq_true rfl, Nat.le_of_ble_eq_true rfl, Nat.le_of_ble_eq_true rfl, Nat.le_of_ble_eq_true rfl⟩ [] [0, 1, 2, 3, 4, 5, 6, 7, 8] [0, 1, 2, 3, 4, 5, 6, 7, 8] rfl rfl (by decide) (fun _ => rfl) rfl (Nat.le_of_ble_eq_true rfl) dX6_dress_23 (fun r_3 u9 h => ?_)
      refine z_if_eq 40 F dX6_dress_26 (by decide) (fun c9 => ?_) (fun c9 => ?_)
      · have h := h.1 c9
        refine z_bipush (v := -2) F dX6_dress_40 rfl ?_
        exact hret (-2 : Int32) vg _ _ h dX6_dress_42
      · have h := h.2 c9
        refine z_iload F dX6_dress_29 4 rfl ?_
        refine z_iconst (v := 0) F dX6_dress_31 rfl ?_
        refine z_bipush (v := 99) F dX6_dress_32 rfl ?_
        refine z_callSi (fun _ => wCE_g G a vg) F (mX6_isWithin G p4 (0 : Int32) (99 : Int32) _ h) gX6_dress_X6_isWithin rfl hdX6_isWithin ⟨rfl, rfl, Nat.le_of_ble_eq_true rfl, Nat.le_of_ble_eq_true rfl, Nat.le_of_ble_eq_true rfl, Nat.le_of_ble_eq_true rfl⟩ [] [0, 1, 2, 3, 4, 5, 6, 7, 8] [0, 1, 2, 3, 4, 5, 6, 7, 8] rfl rfl (by decide) (fun _ => rfl) rfl (Nat.le_of_ble_eq_true rfl) dX6_dress_34 (fun r_4 u9 h => ?_)
        refine z_if_ne 43 F dX6_dress_37 (by decide) (fun c9 => ?_) (fun c9 => ?_)
        · have h := h.1 c9
          refine z_aload_n F dX6_dress_43 rfl 0 rfl ?_
          refine z_get (ci := 6) F iX6 0 rfl rfl 0 (by decide) f0 rfl rfl dX6_dress_44 ?_
          refine z_iload_n F dX6_dress_47 rfl 1 rfl ?_
          refine z_iconst (v := 0) F dX6_dress_48 rfl ?_
          refine z_callVi (fun u9 => wCE_g G a u9) F (mX3_worth G (fun k => a (1 + k)) vg p1 (0 : Int32) _ h) gX6_dress_X3_worth rfl hdX3_worth ⟨rfl, rfl, Nat.le_of_ble_eq_true rfl, Nat.le_of_ble_eq_true rfl, Nat.le_of_ble_eq_true rfl, Nat.le_of_ble_eq_true rfl⟩ 1 rfl rfl [1, 2, 3, 4, 5, 6, 7, 8] [0] [0, 1, 2, 3, 4, 5, 6, 7, 8] rfl rfl (by decide) (fun _ => rfl) rfl (Nat.le_of_ble_eq_true rfl) dX6_dress_49 (fun r_5 vg_6 h => ?_)
          refine z_aload_n F dX6_dress_52 rfl 0 rfl ?_
          refine z_get (ci := 6) F iX6 0 rfl rfl 0 (by decide) f0 rfl rfl dX6_dress_53 ?_
          refine z_iload_n F dX6_dress_56 rfl 1 rfl ?_
          refine z_iconst (v := 1) F dX6_dress_57 rfl ?_
          refine z_callVi (fun u9 => wCE_g G a u9) F (mX3_worth G (fun k => a (1 + k)) vg_6 p1 (1 : Int32) _ h) gX6_dress_X3_worth rfl hdX3_worth ⟨rfl, rfl, Nat.le_of_ble_eq_true rfl, Nat.le_of_ble_eq_true rfl, Nat.le_of_ble_eq_true rfl, Nat.le_of_ble_eq_true rfl⟩ 1 rfl rfl [1, 2, 3, 4, 5, 6, 7, 8] [0] [0, 1, 2, 3, 4, 5, 6, 7, 8] rfl rfl (by decide) (fun _ => rfl) rfl (Nat.le_of_ble_eq_true rfl) dX6_dress_58 (fun r_7 vg_8 h => ?_)
          refine z_iadd F dX6_dress_61 ?_
          refine z_aload_n F dX6_dress_62 rfl 0 rfl ?_
          refine z_get (ci := 6) F iX6 0 rfl rfl 0 (by decide) f0 rfl rfl dX6_dress_63 ?_
          refine z_iload_n F dX6_dress_66 rfl 1 rfl ?_
          refine z_iconst (v := 2) F dX6_dress_67 rfl ?_
          refine z_callVi (fun u9 => wCE_g G a u9) F (mX3_worth G (fun k => a (1 + k)) vg_8 p1 (2 : Int32) _ h) gX6_dress_X3_worth rfl hdX3_worth ⟨rfl, rfl, Nat.le_of_ble_eq_true rfl, Nat.le_of_ble_eq_true rfl, Nat.le_of_ble_eq_true rfl, Nat.le_of_ble_eq_true rfl⟩ 1 rfl rfl [1, 2, 3, 4, 5, 6, 7, 8] [0] [0, 1, 2, 3, 4, 5, 6, 7, 8] rfl rfl (by decide) (fun _ => rfl) rfl (Nat.le_of_ble_eq_true rfl) dX6_dress_68 (fun r_9 vg_10 h => ?_)
          refine z_iadd F dX6_dress_71 ?_
          refine z_topi (fun x5_11 e9 => ?_)
          have h := h x5_11 e9
          refine z_istore [(5, .int x5_11), (0, .ref (a 0)), (1, .int p1), (2, .int p2), (3, .int p3), (4, .int p4)] F dX6_dress_72 (by decide) rfl ?_
          refine z_aload_n F dX6_dress_74 rfl 1 rfl ?_
          refine z_get (ci := 6) F iX6 0 rfl rfl 0 (by decide) f0 rfl rfl dX6_dress_75 ?_
          refine z_get (ci := 3) F iX3 1 rfl rfl 2 (by decide) f1 rfl rfl dX6_dress_78 ?_
          refine z_iload_n F dX6_dress_81 rfl 2 rfl ?_
          refine z_iconst (v := 3) F dX6_dress_82 rfl ?_
          refine z_imul F dX6_dress_83 ?_
          refine z_iload_n F dX6_dress_84 rfl 3 rfl ?_
          have h9 := h.1
          have h := h.2
          refine z_iast (wCE_g G a (Gr_s_dresses vg_10 (upd (Gr_dresses vg_10) ((p1 * (3 : Int32))).toNatClampNeg p2))) F 4 rfl h9 rfl dX6_dress_85 ?_
          refine z_aload_n F dX6_dress_86 rfl 1 rfl ?_
          refine z_get (ci := 6) F iX6 0 rfl rfl 0 (by decide) f0 rfl rfl dX6_dress_87 ?_
          refine z_get (ci := 3) F iX3 1 rfl rfl 2 (by decide) f1 rfl rfl dX6_dress_90 ?_
          refine z_iload_n F dX6_dress_93 rfl 2 rfl ?_
          refine z_iconst (v := 3) F dX6_dress_94 rfl ?_
          refine z_imul F dX6_dress_95 ?_
          refine z_iconst (v := 1) F dX6_dress_96 rfl ?_
          refine z_iadd F dX6_dress_97 ?_
          refine z_iload_n F dX6_dress_98 rfl 4 rfl ?_
          have h9 := h.1
          have h := h.2
          refine z_iast (f := (upd (Gr_dresses vg_10) ((p1 * (3 : Int32))).toNatClampNeg p2)) (wCE_g G a (Gr_s_dresses vg_10 (upd (upd (Gr_dresses vg_10) ((p1 * (3 : Int32))).toNatClampNeg p2) (((p1 * (3 : Int32)) + (1 : Int32))).toNatClampNeg p3))) F 4 rfl h9 rfl dX6_dress_99 ?_
          refine z_aload_n F dX6_dress_100 rfl 1 rfl ?_
          refine z_get (ci := 6) F iX6 0 rfl rfl 0 (by decide) f0 rfl rfl dX6_dress_101 ?_
          refine z_get (ci := 3) F iX3 1 rfl rfl 2 (by decide) f1 rfl rfl dX6_dress_104 ?_
          refine z_iload_n F dX6_dress_107 rfl 2 rfl ?_
          refine z_iconst (v := 3) F dX6_dress_108 rfl ?_
          refine z_imul F dX6_dress_109 ?_
          refine z_iconst (v := 2) F dX6_dress_110 rfl ?_
          refine z_iadd F dX6_dress_111 ?_
          refine z_iload F dX6_dress_112 5 rfl ?_
          have h9 := h.1
          have h := h.2
          refine z_iast (f := (upd (upd (Gr_dresses vg_10) ((p1 * (3 : Int32))).toNatClampNeg p2) (((p1 * (3 : Int32)) + (1 : Int32))).toNatClampNeg p3)) (wCE_g G a (Gr_s_dresses vg_10 (upd (upd (upd (Gr_dresses vg_10) ((p1 * (3 : Int32))).toNatClampNeg p2) (((p1 * (3 : Int32)) + (1 : Int32))).toNatClampNeg p3) (((p1 * (3 : Int32)) + (2 : Int32))).toNatClampNeg p4))) F 4 rfl h9 rfl dX6_dress_114 ?_
          refine z_iload F dX6_dress_115 0 rfl ?_
          exact hret x5_11 (Gr_s_dresses vg_10 (upd (upd (upd (Gr_dresses vg_10) ((p1 * (3 : Int32))).toNatClampNeg p2) (((p1 * (3 : Int32)) + (1 : Int32))).toNatClampNeg p3) (((p1 * (3 : Int32)) + (2 : Int32))).toNatClampNeg p4)) _ _ h dX6_dress_117
        · have h := h.2 c9
          refine z_bipush (v := -2) F dX6_dress_40 rfl ?_
          exact hret (-2 : Int32) vg _ _ h dX6_dress_42
  · have h := h.2 c9
    refine z_iconst (v := -1) F dX6_dress_7 rfl ?_
    exact hret (-1 : Int32) vg _ _ h dX6_dress_8
abbrev rmX6_limit : Room := { frames := 2, cells := 0, slots := 0, locals := 42 }
set_option maxRecDepth 100000 in
set_option maxHeartbeats 4000000 in
theorem mX6_limit (G : ZG) (a : Nat → Nat) (vg : Gr) (p1 : Int32) (Q : Int32 → Gr → Prop) (h : wpX6_limit vg p1 Q) : ZMi G yX6_limit wsX6_limit rmX6_limit [.ref (a 0), .int p1] (wCE_g G a vg) (fun vg : Gr => wCE_g G a vg) (Q) := by
  refine z_ofi (cc := cX6_limit) (N := 3) (lv := [(0, .ref (a 0)), (1, .int p1)]) (by decide) rfl (Nat.le_of_ble_eq_true rfl) rfl (fun E F hret => ?_)
  have F : ZF E 3 cX6_limit RX6 wsX6_limit rmX6_limit G := F
  have f0 : ZW E (.fieldLink RX6 12 "ColourEcho" "gorge" "LColourEcho$Gorge;") := F.at 1 rfl
  have f1 : ZW E (.fieldLink RX6 95 "ColourEcho$Gorge" "most" "I") := F.at 2 rfl
  have iX3 : ∀ x ∈ u_ws RX3 TX3 13, x ∈ wsX6_limit := fun _ h => List.mem_cons_of_mem _ (List.mem_append_right _ h)
  have iX6 : ∀ x ∈ u_ws RX6 TX6 11, x ∈ wsX6_limit := fun _ h => List.mem_cons_of_mem _ (List.mem_append_left _ (List.mem_append_right _ h))
  unfold wpX6_limit at h
  refine z_iload_n F dX6_limit_0 rfl 1 rfl ?_
  refine z_callSi (fun _ => wCE_g G a vg) F (mX6_isAmount G p1 _ h) gX6_limit_X6_isAmount rfl hdX6_isAmount ⟨rfl, rfl, Nat.le_of_ble_eq_true rfl, Nat.le_of_ble_eq_true rfl, Nat.le_of_ble_eq_true rfl, Nat.le_of_ble_eq_true rfl⟩ [] [0, 1, 2, 3, 4, 5, 6, 7, 8] [0, 1, 2, 3, 4, 5, 6, 7, 8] rfl rfl (by decide) (fun _ => rfl) rfl (Nat.le_of_ble_eq_true rfl) dX6_limit_1 (fun r_1 u9 h => ?_)
  refine z_if_ne 10 F dX6_limit_4 (by decide) (fun c9 => ?_) (fun c9 => ?_)
  · have h := h.1 c9
    refine z_aload_n F dX6_limit_10 rfl 0 rfl ?_
    refine z_get (ci := 6) F iX6 0 rfl rfl 0 (by decide) f0 rfl rfl dX6_limit_11 ?_
    refine z_get (ci := 3) F iX3 1 rfl rfl 8 (by decide) f1 rfl rfl dX6_limit_14 ?_
    refine z_topi (fun x2_2 e9 => ?_)
    have h := h x2_2 e9
    refine z_istore_n [(2, .int x2_2), (0, .ref (a 0)), (1, .int p1)] F dX6_limit_17 rfl (by decide) rfl ?_
    refine z_aload_n F dX6_limit_18 rfl 1 rfl ?_
    refine z_get (ci := 6) F iX6 0 rfl rfl 0 (by decide) f0 rfl rfl dX6_limit_19 ?_
    refine z_iload_n F dX6_limit_22 rfl 2 rfl ?_
    refine z_put (ci := 3) (ty := .int) (wCE_g G a (Gr_s_most vg p1)) F iX3 tyX3 tyX3_ok nmX3 1 rfl rfl 8 (by decide) f1 rfl rfl rfl rfl rfl (Nat.le_of_ble_eq_true rfl) rfl dX6_limit_23 ?_
    refine z_iload_n F dX6_limit_26 rfl 0 rfl ?_
    exact hret x2_2 (Gr_s_most vg p1) _ _ h dX6_limit_27
  · have h := h.2 c9
    refine z_bipush (v := -2) F dX6_limit_7 rfl ?_
    exact hret (-2 : Int32) vg _ _ h dX6_limit_9
abbrev rmX6_say : Room := { frames := 1, cells := 0, slots := 0, locals := 22 }
set_option maxRecDepth 100000 in
set_option maxHeartbeats 4000000 in
theorem mX6_say (G : ZG) (a : Nat → Nat) (vp : Pd) (p1 : Int32) (Q : Int32 → Pd → Prop) (h : wpX6_say vp p1 Q) : ZMi G yX6_say wsX6_say rmX6_say [.ref (a 0), .int p1] (wCE_p G a vp) (fun vp : Pd => wCE_p G a vp) (Q) := by
  refine z_ofi (cc := cX6_say) (N := 2) (lv := [(0, .ref (a 0)), (1, .int p1)]) (by decide) rfl (Nat.le_of_ble_eq_true rfl) rfl (fun E F hret => ?_)
  have F : ZF E 2 cX6_say RX6 wsX6_say rmX6_say G := F
  have f0 : ZW E (.fieldLink RX6 22 "ColourEcho" "pad" "LColourEcho$Pad;") := F.at 1 rfl
  have f1 : ZW E (.fieldLink RX6 99 "ColourEcho$Pad" "count" "I") := F.at 2 rfl
  have f2 : ZW E (.fieldLink RX6 102 "ColourEcho$Pad" "signs" "[I") := F.at 3 rfl
  have iX5 : ∀ x ∈ u_ws RX5 TX5 2, x ∈ wsX6_say := fun _ h => List.mem_cons_of_mem _ (List.mem_append_right _ h)
  have iX6 : ∀ x ∈ u_ws RX6 TX6 11, x ∈ wsX6_say := fun _ h => List.mem_cons_of_mem _ (List.mem_append_left _ (List.mem_append_right _ h))
  unfold wpX6_say at h
  refine z_iload_n F dX6_say_0 rfl 1 rfl ?_
  refine z_bipush (v := 33) F dX6_say_1 rfl ?_
  refine z_bipush (v := 126) F dX6_say_3 rfl ?_
  refine z_callSi (fun _ => wCE_p G a vp) F (mX6_isWithin G p1 (33 : Int32) (126 : Int32) _ h) gX6_say_X6_isWithin rfl hdX6_isWithin ⟨rfl, rfl, Nat.le_of_ble_eq_true rfl, Nat.le_of_ble_eq_true rfl, Nat.le_of_ble_eq_true rfl, Nat.le_of_ble_eq_true rfl⟩ [] [0, 1, 2] [0, 1, 2] rfl rfl (by decide) (fun _ => rfl) rfl (Nat.le_of_ble_eq_true rfl) dX6_say_5 (fun r_1 u9 h => ?_)
  refine z_if_ne 14 F dX6_say_8 (by decide) (fun c9 => ?_) (fun c9 => ?_)
  · have h := h.1 c9
    refine z_aload_n F dX6_say_14 rfl 0 rfl ?_
    refine z_get (ci := 6) F iX6 0 rfl rfl 2 (by decide) f0 rfl rfl dX6_say_15 ?_
    refine z_get (ci := 5) F iX5 1 rfl rfl 1 (by decide) f1 rfl rfl dX6_say_18 ?_
    refine z_bipush (v := 60) F dX6_say_21 rfl ?_
    refine z_icmp_lt 29 F dX6_say_23 (by decide) (fun c9 => ?_) (fun c9 => ?_)
    · have h := h.1 c9
      refine z_aload_n F dX6_say_29 rfl 0 rfl ?_
      refine z_get (ci := 6) F iX6 0 rfl rfl 2 (by decide) f0 rfl rfl dX6_say_30 ?_
      refine z_get (ci := 5) F iX5 1 rfl rfl 0 (by decide) f2 rfl rfl dX6_say_33 ?_
      refine z_aload_n F dX6_say_36 rfl 0 rfl ?_
      refine z_get (ci := 6) F iX6 0 rfl rfl 2 (by decide) f0 rfl rfl dX6_say_37 ?_
      refine z_get (ci := 5) F iX5 1 rfl rfl 1 (by decide) f1 rfl rfl dX6_say_40 ?_
      refine z_iload_n F dX6_say_43 rfl 1 rfl ?_
      have h9 := h.1
      have h := h.2
      refine z_iast (wCE_p G a (Pd_s_signs vp (upd (Pd_signs vp) ((Pd_count vp)).toNatClampNeg p1))) F 2 rfl h9 rfl dX6_say_44 ?_
      refine z_aload_n F dX6_say_45 rfl 0 rfl ?_
      refine z_get (ci := 6) F iX6 0 rfl rfl 2 (by decide) f0 rfl rfl dX6_say_46 ?_
      refine z_dup F dX6_say_49 rfl ?_
      refine z_get (ci := 5) (v := .int (Pd_count vp)) F iX5 1 rfl rfl 1 (by decide) f1 rfl rfl dX6_say_50 ?_
      refine z_iconst (v := 1) F dX6_say_53 rfl ?_
      refine z_iadd F dX6_say_54 ?_
      refine z_put (ci := 5) (ty := .int) (wCE_p G a (Pd_s_count (Pd_s_signs vp (upd (Pd_signs vp) ((Pd_count vp)).toNatClampNeg p1)) ((Pd_count vp) + (1 : Int32)))) F iX5 tyX5 tyX5_ok nmX5 1 rfl rfl 1 (by decide) f1 rfl rfl rfl rfl rfl (Nat.le_of_ble_eq_true rfl) rfl dX6_say_55 ?_
      refine z_aload_n F dX6_say_58 rfl 0 rfl ?_
      refine z_get (ci := 6) F iX6 0 rfl rfl 2 (by decide) f0 rfl rfl dX6_say_59 ?_
      refine z_get (ci := 5) (v := .int ((Pd_count vp) + (1 : Int32))) F iX5 1 rfl rfl 1 (by decide) f1 rfl rfl dX6_say_62 ?_
      exact hret ((Pd_count vp) + (1 : Int32)) (Pd_s_count (Pd_s_signs vp (upd (Pd_signs vp) ((Pd_count vp)).toNatClampNeg p1)) ((Pd_count vp) + (1 : Int32))) _ _ h dX6_say_65
    · have h := h.2 c9
      refine z_bipush (v := -4) F dX6_say_26 rfl ?_
      exact hret (-4 : Int32) vp _ _ h dX6_say_28
  · have h := h.2 c9
    refine z_bipush (v := -2) F dX6_say_11 rfl ?_
    exact hret (-2 : Int32) vp _ _ h dX6_say_13
abbrev rmX6_wipe : Room := { frames := 0, cells := 0, slots := 0, locals := 0 }
set_option maxRecDepth 100000 in
set_option maxHeartbeats 4000000 in
theorem mX6_wipe (G : ZG) (a : Nat → Nat) (vp : Pd) (Q : Int32 → Pd → Prop) (h : wpX6_wipe vp Q) : ZMi G yX6_wipe wsX6_wipe rmX6_wipe [.ref (a 0)] (wCE_p G a vp) (fun vp : Pd => wCE_p G a vp) (Q) := by
  refine z_ofi (cc := cX6_wipe) (N := 2) (lv := [(0, .ref (a 0))]) (by decide) rfl (Nat.le_of_ble_eq_true rfl) rfl (fun E F hret => ?_)
  have F : ZF E 2 cX6_wipe RX6 wsX6_wipe rmX6_wipe G := F
  have f0 : ZW E (.fieldLink RX6 22 "ColourEcho" "pad" "LColourEcho$Pad;") := F.at 1 rfl
  have f1 : ZW E (.fieldLink RX6 99 "ColourEcho$Pad" "count" "I") := F.at 2 rfl
  have iX5 : ∀ x ∈ u_ws RX5 TX5 2, x ∈ wsX6_wipe := fun _ h => List.mem_cons_of_mem _ (List.mem_append_right _ h)
  have iX6 : ∀ x ∈ u_ws RX6 TX6 11, x ∈ wsX6_wipe := fun _ h => List.mem_cons_of_mem _ (List.mem_append_left _ (List.mem_append_right _ h))
  unfold wpX6_wipe at h
  refine z_aload_n F dX6_wipe_0 rfl 0 rfl ?_
  refine z_get (ci := 6) F iX6 0 rfl rfl 2 (by decide) f0 rfl rfl dX6_wipe_1 ?_
  refine z_get (ci := 5) F iX5 1 rfl rfl 1 (by decide) f1 rfl rfl dX6_wipe_4 ?_
  refine z_topi (fun x1_1 e9 => ?_)
  have h := h x1_1 e9
  refine z_istore_n [(1, .int x1_1), (0, .ref (a 0))] F dX6_wipe_7 rfl (by decide) rfl ?_
  refine z_aload_n F dX6_wipe_8 rfl 1 rfl ?_
  refine z_get (ci := 6) F iX6 0 rfl rfl 2 (by decide) f0 rfl rfl dX6_wipe_9 ?_
  refine z_iconst (v := 0) F dX6_wipe_12 rfl ?_
  refine z_put (ci := 5) (ty := .int) (wCE_p G a (Pd_s_count vp (0 : Int32))) F iX5 tyX5 tyX5_ok nmX5 1 rfl rfl 1 (by decide) f1 rfl rfl rfl rfl rfl (Nat.le_of_ble_eq_true rfl) rfl dX6_wipe_13 ?_
  refine z_iload_n F dX6_wipe_16 rfl 0 rfl ?_
  exact hret x1_1 (Pd_s_count vp (0 : Int32)) _ _ h dX6_wipe_17
abbrev rmX6_fault : Room := { frames := 3, cells := 0, slots := 0, locals := 65 }
set_option maxRecDepth 100000 in
set_option maxHeartbeats 4000000 in
theorem mX6_fault (G : ZG) (a : Nat → Nat) (vp : Pd) (Q : Int32 → Pd → Prop) (h : wpX6_fault vp Q) : ZMi G yX6_fault wsX6_fault rmX6_fault [.ref (a 0)] (wCE_p G a vp) (fun vp : Pd => wCE_p G a vp) (Q) := by
  refine z_ofi (cc := cX6_fault) (N := 1) (lv := [(0, .ref (a 0))]) (by decide) rfl (Nat.le_of_ble_eq_true rfl) rfl (fun E F hret => ?_)
  have F : ZF E 1 cX6_fault RX6 wsX6_fault rmX6_fault G := F
  have f0 : ZW E (.fieldLink RX6 22 "ColourEcho" "pad" "LColourEcho$Pad;") := F.at 1 rfl
  have iX6 : ∀ x ∈ u_ws RX6 TX6 11, x ∈ wsX6_fault := fun _ h => List.mem_cons_of_mem _ (List.mem_append_left _ (List.mem_append_right _ h))
  unfold wpX6_fault at h
  refine z_aload_n F dX6_fault_0 rfl 0 rfl ?_
  refine z_get (ci := 6) F iX6 0 rfl rfl 2 (by decide) f0 rfl rfl dX6_fault_1 ?_
  refine z_callVi (fun u9 => wCE_p G a u9) F (mX5_faultPlace G (fun k => a (17 + k)) vp _ h) gX6_fault_X5_faultPlace rfl hdX5_faultPlace ⟨rfl, rfl, Nat.le_of_ble_eq_true rfl, Nat.le_of_ble_eq_true rfl, Nat.le_of_ble_eq_true rfl, Nat.le_of_ble_eq_true rfl⟩ 1 rfl rfl [1, 2] [0] [0, 1, 2] rfl rfl (by decide) (fun _ => rfl) rfl (Nat.le_of_ble_eq_true rfl) dX6_fault_4 (fun r_1 vp_2 h => ?_)
  exact hret r_1 vp_2 _ _ h dX6_fault_7
abbrev rmX6_judge : Room := { frames := 5, cells := 0, slots := 0, locals := 119 }
set_option maxRecDepth 100000 in
set_option maxHeartbeats 4000000 in
theorem mX6_judge (G : ZG) (a : Nat → Nat) (vg : Gr) (vp : Pd) (vy : Dy) (ve : Gr) (p1 : Int32) (Q : Int32 → Gr → Pd → Dy → Gr → Prop) (h : wpX6_judge vg vp vy ve p1 Q) : ZMi G yX6_judge wsX6_judge rmX6_judge [.ref (a 0), .int p1] (wCE_gpye G a vg vp vy ve) (fun u9 : Gr × Pd × Dy × Gr => wCE_gpye G a u9.1 u9.2.1 u9.2.2.1 u9.2.2.2) (fun r u9 => Q r u9.1 u9.2.1 u9.2.2.1 u9.2.2.2) := by
  refine z_ofi (cc := cX6_judge) (N := 2) (lv := [(0, .ref (a 0)), (1, .int p1)]) (by decide) rfl (Nat.le_of_ble_eq_true rfl) rfl (fun E F hret => ?_)
  have F : ZF E 2 cX6_judge RX6 wsX6_judge rmX6_judge G := F
  have f0 : ZW E (.fieldLink RX6 22 "ColourEcho" "pad" "LColourEcho$Pad;") := F.at 1 rfl
  have f1 : ZW E (.fieldLink RX6 29 "ColourEcho" "days" "LColourEcho$Days;") := F.at 2 rfl
  have f2 : ZW E (.fieldLink RX6 12 "ColourEcho" "gorge" "LColourEcho$Gorge;") := F.at 3 rfl
  have f3 : ZW E (.fieldLink RX6 113 "ColourEcho$Days" "reason" "I") := F.at 4 rfl
  have f4 : ZW E (.fieldLink RX6 116 "ColourEcho$Days" "acts" "I") := F.at 5 rfl
  have iX1 : ∀ x ∈ u_ws RX1 TX1 4, x ∈ wsX6_judge := fun _ h => List.mem_cons_of_mem _ (List.mem_append_left _ (List.mem_append_left _ (List.mem_append_right _ h)))
  have iX6 : ∀ x ∈ u_ws RX6 TX6 11, x ∈ wsX6_judge := fun _ h => List.mem_cons_of_mem _ (List.mem_append_left _ (List.mem_append_left _ (List.mem_append_left _ (List.mem_append_right _ h))))
  unfold wpX6_judge at h
  refine z_iload_n F dX6_judge_0 rfl 1 rfl ?_
  refine z_iconst (v := 0) F dX6_judge_1 rfl ?_
  refine z_iconst (v := 1) F dX6_judge_2 rfl ?_
  refine z_callSi (fun _ => wCE_gpye G a vg vp vy ve) F (mX6_isWithin G p1 (0 : Int32) (1 : Int32) _ h) gX6_judge_X6_isWithin rfl hdX6_isWithin ⟨rfl, rfl, Nat.le_of_ble_eq_true rfl, Nat.le_of_ble_eq_true rfl, Nat.le_of_ble_eq_true rfl, Nat.le_of_ble_eq_true rfl⟩ [] [0, 1, 2, 3, 4, 5, 6, 7, 8, 9, 10, 11, 12, 13, 14, 15, 16, 17, 18, 19] [0, 1, 2, 3, 4, 5, 6, 7, 8, 9, 10, 11, 12, 13, 14, 15, 16, 17, 18, 19] rfl rfl (by decide) (fun _ => rfl) rfl (Nat.le_of_ble_eq_true rfl) dX6_judge_3 (fun r_1 u9 h => ?_)
  refine z_if_ne 12 F dX6_judge_6 (by decide) (fun c9 => ?_) (fun c9 => ?_)
  · have h := h.1 c9
    refine z_aload_n F dX6_judge_12 rfl 0 rfl ?_
    refine z_get (ci := 6) F iX6 0 rfl rfl 2 (by decide) f0 rfl rfl dX6_judge_13 ?_
    refine z_callVi (fun u9 => wCE_gpye G a vg u9 vy ve) F (mX5_faultPlace G (fun k => a (17 + k)) vp _ h) gX6_judge_X5_faultPlace rfl hdX5_faultPlace ⟨rfl, rfl, Nat.le_of_ble_eq_true rfl, Nat.le_of_ble_eq_true rfl, Nat.le_of_ble_eq_true rfl, Nat.le_of_ble_eq_true rfl⟩ 9 rfl rfl [9, 10] [0, 1, 2, 3, 4, 5, 6, 7, 8, 11, 12, 13, 14, 15, 16, 17, 18, 19] [0, 1, 2, 3, 4, 5, 6, 7, 8, 18, 19, 9, 10, 11, 12, 13, 14, 15, 16, 17] rfl rfl (by decide) (fun _ => rfl) rfl (Nat.le_of_ble_eq_true rfl) dX6_judge_16 (fun r_2 vp_3 h => ?_)
    refine z_bipush (v := -6) F dX6_judge_19 rfl ?_
    refine z_icmp_eq 27 F dX6_judge_21 (by decide) (fun c9 => ?_) (fun c9 => ?_)
    · have h := h.1 c9
      refine z_aload_n F dX6_judge_27 rfl 0 rfl ?_
      refine z_get (ci := 6) F iX6 0 rfl rfl 3 (by decide) f1 rfl rfl dX6_judge_28 ?_
      refine z_aload_n F dX6_judge_31 rfl 0 rfl ?_
      refine z_get (ci := 6) F iX6 0 rfl rfl 0 (by decide) f2 rfl rfl dX6_judge_32 ?_
      refine z_aload_n F dX6_judge_35 rfl 0 rfl ?_
      refine z_get (ci := 6) F iX6 0 rfl rfl 2 (by decide) f0 rfl rfl dX6_judge_36 ?_
      refine z_callVv (fun u9 => wCE_gpye G a u9.2.2.1 u9.2.2.2 u9.1 u9.2.1) F (mX1_play G (fun k => a (19 + k)) (fun k => a (20 + k)) (fun k => a (1 + k)) (fun k => a (17 + k)) vy ve vg vp_3 _ h) gX6_judge_X1_play rfl hdX1_play ⟨rfl, rfl, Nat.le_of_ble_eq_true rfl, Nat.le_of_ble_eq_true rfl, Nat.le_of_ble_eq_true rfl, Nat.le_of_ble_eq_true rfl⟩ 11 rfl rfl [11, 12, 13, 14, 15, 16, 17, 18, 19, 1, 2, 3, 4, 5, 6, 7, 8, 9, 10] [0] [0, 10, 11, 12, 13, 14, 15, 16, 17, 18, 19, 1, 2, 3, 4, 5, 6, 7, 8, 9] rfl rfl (by decide) (fun _ => rfl) rfl (Nat.le_of_ble_eq_true rfl) dX6_judge_39 (fun u9 h => ?_)
      obtain ⟨vy_4, ve_5, vg_6, vp_7⟩ := u9
      refine z_w (w' := wCE_gpye G a vg_6 vp_7 vy_4 ve_5) rfl ?_
      refine z_aload_n F dX6_judge_42 rfl 0 rfl ?_
      refine z_get (ci := 6) F iX6 0 rfl rfl 3 (by decide) f1 rfl rfl dX6_judge_43 ?_
      refine z_get (ci := 1) F iX1 11 rfl rfl 2 (by decide) f3 rfl rfl dX6_judge_46 ?_
      refine z_if_ne 55 F dX6_judge_49 (by decide) (fun c9 => ?_) (fun c9 => ?_)
      · have h := h.1 c9
        refine z_iload_n F dX6_judge_55 rfl 1 rfl ?_
        refine z_if_ne 69 F dX6_judge_56 (by decide) (fun c9 => ?_) (fun c9 => ?_)
        · have h := h.1 c9
          refine z_aload_n F dX6_judge_69 rfl 0 rfl ?_
          refine z_get (ci := 6) F iX6 0 rfl rfl 3 (by decide) f1 rfl rfl dX6_judge_70 ?_
          refine z_get (ci := 1) F iX1 11 rfl rfl 2 (by decide) f3 rfl rfl dX6_judge_73 ?_
          exact hret (Dy_reason vy_4) (vg_6, vp_7, vy_4, ve_5) _ _ h dX6_judge_76
        · have h := h.2 c9
          refine z_aload_n F dX6_judge_59 rfl 0 rfl ?_
          refine z_get (ci := 6) F iX6 0 rfl rfl 3 (by decide) f1 rfl rfl dX6_judge_60 ?_
          refine z_get (ci := 1) F iX1 11 rfl rfl 1 (by decide) f4 rfl rfl dX6_judge_63 ?_
          refine z_goto 76 F dX6_judge_66 (by decide) ?_
          exact hret (Dy_acts vy_4) (vg_6, vp_7, vy_4, ve_5) _ _ h dX6_judge_76
      · have h := h.2 c9
        refine z_bipush (v := -6) F dX6_judge_52 rfl ?_
        exact hret (-6 : Int32) (vg_6, vp_7, vy_4, ve_5) _ _ h dX6_judge_54
    · have h := h.2 c9
      refine z_bipush (v := -5) F dX6_judge_24 rfl ?_
      exact hret (-5 : Int32) (vg, vp_3, vy, ve) _ _ h dX6_judge_26
  · have h := h.2 c9
    refine z_bipush (v := -2) F dX6_judge_9 rfl ?_
    exact hret (-2 : Int32) (vg, vp, vy, ve) _ _ h dX6_judge_11
abbrev rmX6_daysCanBe : Room := { frames := 5, cells := 0, slots := 0, locals := 119 }
set_option maxRecDepth 100000 in
set_option maxHeartbeats 4000000 in
theorem mX6_daysCanBe (G : ZG) (a : Nat → Nat) (vg : Gr) (vp : Pd) (vy : Dy) (ve : Gr) (Q : Int32 → Gr → Pd → Dy → Gr → Prop) (h : wpX6_daysCanBe vg vp vy ve Q) : ZMi G yX6_daysCanBe wsX6_daysCanBe rmX6_daysCanBe [.ref (a 0)] (wCE_gpye G a vg vp vy ve) (fun u9 : Gr × Pd × Dy × Gr => wCE_gpye G a u9.1 u9.2.1 u9.2.2.1 u9.2.2.2) (fun r u9 => Q r u9.1 u9.2.1 u9.2.2.1 u9.2.2.2) := by
  refine z_ofz (cc := cX6_daysCanBe) (N := 1) (lv := [(0, .ref (a 0))]) (by decide) rfl (Nat.le_of_ble_eq_true rfl) rfl (fun E F hret => ?_)
  have F : ZF E 1 cX6_daysCanBe RX6 wsX6_daysCanBe rmX6_daysCanBe G := F
  have f0 : ZW E (.fieldLink RX6 22 "ColourEcho" "pad" "LColourEcho$Pad;") := F.at 1 rfl
  have f1 : ZW E (.fieldLink RX6 29 "ColourEcho" "days" "LColourEcho$Days;") := F.at 2 rfl
  have f2 : ZW E (.fieldLink RX6 12 "ColourEcho" "gorge" "LColourEcho$Gorge;") := F.at 3 rfl
  have f3 : ZW E (.fieldLink RX6 113 "ColourEcho$Days" "reason" "I") := F.at 4 rfl
  have iX1 : ∀ x ∈ u_ws RX1 TX1 4, x ∈ wsX6_daysCanBe := fun _ h => List.mem_cons_of_mem _ (List.mem_append_left _ (List.mem_append_left _ (List.mem_append_right _ h)))
  have iX6 : ∀ x ∈ u_ws RX6 TX6 11, x ∈ wsX6_daysCanBe := fun _ h => List.mem_cons_of_mem _ (List.mem_append_left _ (List.mem_append_left _ (List.mem_append_left _ (List.mem_append_right _ h))))
  unfold wpX6_daysCanBe at h
  refine z_aload_n F dX6_daysCanBe_0 rfl 0 rfl ?_
  refine z_get (ci := 6) F iX6 0 rfl rfl 2 (by decide) f0 rfl rfl dX6_daysCanBe_1 ?_
  refine z_callVi (fun u9 => wCE_gpye G a vg u9 vy ve) F (mX5_faultPlace G (fun k => a (17 + k)) vp _ h) gX6_daysCanBe_X5_faultPlace rfl hdX5_faultPlace ⟨rfl, rfl, Nat.le_of_ble_eq_true rfl, Nat.le_of_ble_eq_true rfl, Nat.le_of_ble_eq_true rfl, Nat.le_of_ble_eq_true rfl⟩ 9 rfl rfl [9, 10] [0, 1, 2, 3, 4, 5, 6, 7, 8, 11, 12, 13, 14, 15, 16, 17, 18, 19] [0, 1, 2, 3, 4, 5, 6, 7, 8, 18, 19, 9, 10, 11, 12, 13, 14, 15, 16, 17] rfl rfl (by decide) (fun _ => rfl) rfl (Nat.le_of_ble_eq_true rfl) dX6_daysCanBe_4 (fun r_1 vp_2 h => ?_)
  refine z_bipush (v := -6) F dX6_daysCanBe_7 rfl ?_
  refine z_icmp_eq 14 F dX6_daysCanBe_9 (by decide) (fun c9 => ?_) (fun c9 => ?_)
  · have h := h.1 c9
    refine z_aload_n F dX6_daysCanBe_14 rfl 0 rfl ?_
    refine z_get (ci := 6) F iX6 0 rfl rfl 3 (by decide) f1 rfl rfl dX6_daysCanBe_15 ?_
    refine z_aload_n F dX6_daysCanBe_18 rfl 0 rfl ?_
    refine z_get (ci := 6) F iX6 0 rfl rfl 0 (by decide) f2 rfl rfl dX6_daysCanBe_19 ?_
    refine z_aload_n F dX6_daysCanBe_22 rfl 0 rfl ?_
    refine z_get (ci := 6) F iX6 0 rfl rfl 2 (by decide) f0 rfl rfl dX6_daysCanBe_23 ?_
    refine z_callVv (fun u9 => wCE_gpye G a u9.2.2.1 u9.2.2.2 u9.1 u9.2.1) F (mX1_play G (fun k => a (19 + k)) (fun k => a (20 + k)) (fun k => a (1 + k)) (fun k => a (17 + k)) vy ve vg vp_2 _ h) gX6_daysCanBe_X1_play rfl hdX1_play ⟨rfl, rfl, Nat.le_of_ble_eq_true rfl, Nat.le_of_ble_eq_true rfl, Nat.le_of_ble_eq_true rfl, Nat.le_of_ble_eq_true rfl⟩ 11 rfl rfl [11, 12, 13, 14, 15, 16, 17, 18, 19, 1, 2, 3, 4, 5, 6, 7, 8, 9, 10] [0] [0, 10, 11, 12, 13, 14, 15, 16, 17, 18, 19, 1, 2, 3, 4, 5, 6, 7, 8, 9] rfl rfl (by decide) (fun _ => rfl) rfl (Nat.le_of_ble_eq_true rfl) dX6_daysCanBe_26 (fun u9 h => ?_)
    obtain ⟨vy_3, ve_4, vg_5, vp_6⟩ := u9
    refine z_w (w' := wCE_gpye G a vg_5 vp_6 vy_3 ve_4) rfl ?_
    refine z_aload_n F dX6_daysCanBe_29 rfl 0 rfl ?_
    refine z_get (ci := 6) F iX6 0 rfl rfl 3 (by decide) f1 rfl rfl dX6_daysCanBe_30 ?_
    refine z_get (ci := 1) F iX1 11 rfl rfl 2 (by decide) f3 rfl rfl dX6_daysCanBe_33 ?_
    refine z_if_ne 43 F dX6_daysCanBe_36 (by decide) (fun c9 => ?_) (fun c9 => ?_)
    · have h := h.1 c9
      refine z_iconst (v := 0) F dX6_daysCanBe_43 rfl ?_
      exact hret (0 : Int32) (vg_5, vp_6, vy_3, ve_4) _ _ h dX6_daysCanBe_44 (by decide)
    · have h := h.2 c9
      refine z_iconst (v := 1) F dX6_daysCanBe_39 rfl ?_
      refine z_goto 44 F dX6_daysCanBe_40 (by decide) ?_
      exact hret (1 : Int32) (vg_5, vp_6, vy_3, ve_4) _ _ h dX6_daysCanBe_44 (by decide)
  · have h := h.2 c9
    refine z_iconst (v := 0) F dX6_daysCanBe_12 rfl ?_
    exact hret (0 : Int32) (vg, vp_2, vy, ve) _ _ h dX6_daysCanBe_13 (by decide)
abbrev rmX6_done : Room := { frames := 6, cells := 0, slots := 0, locals := 139 }
set_option maxRecDepth 100000 in
set_option maxHeartbeats 4000000 in
theorem mX6_done (G : ZG) (a : Nat → Nat) (vg : Gr) (vp : Pd) (vy : Dy) (ve : Gr) (Q : Int32 → Gr → Pd → Dy → Gr → Prop) (h : wpX6_done vg vp vy ve Q) : ZMi G yX6_done wsX6_done rmX6_done [.ref (a 0)] (wCE_gpye G a vg vp vy ve) (fun u9 : Gr × Pd × Dy × Gr => wCE_gpye G a u9.1 u9.2.1 u9.2.2.1 u9.2.2.2) (fun r u9 => Q r u9.1 u9.2.1 u9.2.2.1 u9.2.2.2) := by
  refine z_ofi (cc := cX6_done) (N := 1) (lv := [(0, .ref (a 0))]) (by decide) rfl (Nat.le_of_ble_eq_true rfl) rfl (fun E F hret => ?_)
  have F : ZF E 1 cX6_done RX6 wsX6_done rmX6_done G := F
  have f0 : ZW E (.fieldLink RX6 12 "ColourEcho" "gorge" "LColourEcho$Gorge;") := F.at 1 rfl
  have f1 : ZW E (.fieldLink RX6 29 "ColourEcho" "days" "LColourEcho$Days;") := F.at 2 rfl
  have f2 : ZW E (.fieldLink RX6 123 "ColourEcho$Days" "end" "LColourEcho$Gorge;") := F.at 3 rfl
  have f3 : ZW E (.fieldLink RX6 22 "ColourEcho" "pad" "LColourEcho$Pad;") := F.at 4 rfl
  have f4 : ZW E (.fieldLink RX6 99 "ColourEcho$Pad" "count" "I") := F.at 5 rfl
  have f5 : ZW E (.fieldLink RX6 116 "ColourEcho$Days" "acts" "I") := F.at 6 rfl
  have iX1 : ∀ x ∈ u_ws RX1 TX1 4, x ∈ wsX6_done := fun _ h => List.mem_cons_of_mem _ (List.mem_append_left _ (List.mem_append_left _ (List.mem_append_right _ h)))
  have iX5 : ∀ x ∈ u_ws RX5 TX5 2, x ∈ wsX6_done := fun _ h => List.mem_cons_of_mem _ (List.mem_append_left _ (List.mem_append_right _ h))
  have iX6 : ∀ x ∈ u_ws RX6 TX6 11, x ∈ wsX6_done := fun _ h => List.mem_cons_of_mem _ (List.mem_append_left _ (List.mem_append_left _ (List.mem_append_left _ (List.mem_append_right _ h))))
  unfold wpX6_done at h
  refine z_aload_n F dX6_done_0 rfl 0 rfl ?_
  refine z_callVi (fun u9 => wCE_gpye G a u9.1 u9.2.1 u9.2.2.1 u9.2.2.2) F (mX6_daysCanBe G a vg vp vy ve _ h) gX6_done_X6_daysCanBe rfl hdX6_daysCanBe ⟨rfl, rfl, Nat.le_of_ble_eq_true rfl, Nat.le_of_ble_eq_true rfl, Nat.le_of_ble_eq_true rfl, Nat.le_of_ble_eq_true rfl⟩ 0 rfl rfl [0, 1, 2, 3, 4, 5, 6, 7, 8, 9, 10, 11, 12, 13, 14, 15, 16, 17, 18, 19] [] [0, 1, 2, 3, 4, 5, 6, 7, 8, 9, 10, 11, 12, 13, 14, 15, 16, 17, 18, 19] rfl rfl (by decide) (fun _ => rfl) rfl (Nat.le_of_ble_eq_true rfl) dX6_done_1 (fun r_1 u9 h => ?_)
  obtain ⟨vg_2, vp_3, vy_4, ve_5⟩ := u9
  refine z_w (w' := wCE_gpye G a vg_2 vp_3 vy_4 ve_5) rfl ?_
  refine z_if_ne 10 F dX6_done_4 (by decide) (fun c9 => ?_) (fun c9 => ?_)
  · have h := h.1 c9
    refine z_aload_n F dX6_done_10 rfl 0 rfl ?_
    refine z_get (ci := 6) F iX6 0 rfl rfl 0 (by decide) f0 rfl rfl dX6_done_11 ?_
    refine z_aload_n F dX6_done_14 rfl 0 rfl ?_
    refine z_get (ci := 6) F iX6 0 rfl rfl 3 (by decide) f1 rfl rfl dX6_done_15 ?_
    refine z_get (ci := 1) F iX1 11 rfl rfl 0 (by decide) f2 rfl rfl dX6_done_18 ?_
    refine z_callVv (fun u9 => wCE_gpye G a u9.1 vp_3 vy_4 u9.2) F (mX3_become G (fun k => a (1 + k)) (fun k => a (20 + k)) vg_2 ve_5 _ h) gX6_done_X3_become rfl hdX3_become ⟨rfl, rfl, Nat.le_of_ble_eq_true rfl, Nat.le_of_ble_eq_true rfl, Nat.le_of_ble_eq_true rfl, Nat.le_of_ble_eq_true rfl⟩ 1 rfl rfl [1, 2, 3, 4, 5, 6, 7, 8, 12, 13, 14, 15, 16, 17, 18, 19] [0, 9, 10, 11] [0, 4, 5, 6, 7, 8, 9, 10, 11, 1, 2, 3, 12, 13, 14, 15, 16, 17, 18, 19] rfl rfl (by decide) (fun _ => rfl) rfl (Nat.le_of_ble_eq_true rfl) dX6_done_21 (fun u9 h => ?_)
    obtain ⟨vg_6, ve_7⟩ := u9
    refine z_w (w' := wCE_gpye G a vg_6 vp_3 vy_4 ve_7) rfl ?_
    refine z_aload_n F dX6_done_24 rfl 0 rfl ?_
    refine z_get (ci := 6) F iX6 0 rfl rfl 2 (by decide) f3 rfl rfl dX6_done_25 ?_
    refine z_iconst (v := 0) F dX6_done_28 rfl ?_
    refine z_put (ci := 5) (ty := .int) (wCE_gpye G a vg_6 (Pd_s_count vp_3 (0 : Int32)) vy_4 ve_7) F iX5 tyX5 tyX5_ok nmX5 9 rfl rfl 1 (by decide) f4 rfl rfl rfl rfl rfl (Nat.le_of_ble_eq_true rfl) rfl dX6_done_29 ?_
    refine z_aload_n F dX6_done_32 rfl 0 rfl ?_
    refine z_get (ci := 6) F iX6 0 rfl rfl 3 (by decide) f1 rfl rfl dX6_done_33 ?_
    refine z_get (ci := 1) F iX1 11 rfl rfl 1 (by decide) f5 rfl rfl dX6_done_36 ?_
    exact hret (Dy_acts vy_4) (vg_6, (Pd_s_count vp_3 (0 : Int32)), vy_4, ve_7) _ _ h dX6_done_39
  · have h := h.2 c9
    refine z_bipush (v := -5) F dX6_done_7 rfl ?_
    exact hret (-5 : Int32) (vg_2, vp_3, vy_4, ve_5) _ _ h dX6_done_9
abbrev rmX6_behind : Room := { frames := 6, cells := 0, slots := 0, locals := 139 }
set_option maxRecDepth 100000 in
set_option maxHeartbeats 4000000 in
theorem mX6_behind (G : ZG) (a : Nat → Nat) (vg : Gr) (vp : Pd) (vy : Dy) (ve : Gr) (p1 : Int32) (Q : Int32 → Gr → Pd → Dy → Gr → Prop) (h : wpX6_behind vg vp vy ve p1 Q) : ZMi G yX6_behind wsX6_behind rmX6_behind [.ref (a 0), .int p1] (wCE_gpye G a vg vp vy ve) (fun u9 : Gr × Pd × Dy × Gr => wCE_gpye G a u9.1 u9.2.1 u9.2.2.1 u9.2.2.2) (fun r u9 => Q r u9.1 u9.2.1 u9.2.2.1 u9.2.2.2) := by
  refine z_ofi (cc := cX6_behind) (N := 2) (lv := [(0, .ref (a 0)), (1, .int p1)]) (by decide) rfl (Nat.le_of_ble_eq_true rfl) rfl (fun E F hret => ?_)
  have F : ZF E 2 cX6_behind RX6 wsX6_behind rmX6_behind G := F
  have f0 : ZW E (.fieldLink RX6 29 "ColourEcho" "days" "LColourEcho$Days;") := F.at 1 rfl
  have f1 : ZW E (.fieldLink RX6 123 "ColourEcho$Days" "end" "LColourEcho$Gorge;") := F.at 2 rfl
  have f2 : ZW E (.fieldLink RX6 130 "ColourEcho$Gorge" "day" "I") := F.at 3 rfl
  have iX1 : ∀ x ∈ u_ws RX1 TX1 4, x ∈ wsX6_behind := fun _ h => List.mem_cons_of_mem _ (List.mem_append_left _ (List.mem_append_left _ (List.mem_append_right _ h)))
  have iX3 : ∀ x ∈ u_ws RX3 TX3 13, x ∈ wsX6_behind := fun _ h => List.mem_cons_of_mem _ (List.mem_append_left _ (List.mem_append_right _ h))
  have iX6 : ∀ x ∈ u_ws RX6 TX6 11, x ∈ wsX6_behind := fun _ h => List.mem_cons_of_mem _ (List.mem_append_left _ (List.mem_append_left _ (List.mem_append_left _ (List.mem_append_right _ h))))
  unfold wpX6_behind at h
  refine z_iload_n F dX6_behind_0 rfl 1 rfl ?_
  refine z_iconst (v := 0) F dX6_behind_1 rfl ?_
  refine z_iconst (v := 3) F dX6_behind_2 rfl ?_
  refine z_callSi (fun _ => wCE_gpye G a vg vp vy ve) F (mX6_isWithin G p1 (0 : Int32) (3 : Int32) _ h) gX6_behind_X6_isWithin rfl hdX6_isWithin ⟨rfl, rfl, Nat.le_of_ble_eq_true rfl, Nat.le_of_ble_eq_true rfl, Nat.le_of_ble_eq_true rfl, Nat.le_of_ble_eq_true rfl⟩ [] [0, 1, 2, 3, 4, 5, 6, 7, 8, 9, 10, 11, 12, 13, 14, 15, 16, 17, 18, 19] [0, 1, 2, 3, 4, 5, 6, 7, 8, 9, 10, 11, 12, 13, 14, 15, 16, 17, 18, 19] rfl rfl (by decide) (fun _ => rfl) rfl (Nat.le_of_ble_eq_true rfl) dX6_behind_3 (fun r_1 u9 h => ?_)
  refine z_if_ne 12 F dX6_behind_6 (by decide) (fun c9 => ?_) (fun c9 => ?_)
  · have h := h.1 c9
    refine z_aload_n F dX6_behind_12 rfl 0 rfl ?_
    refine z_callVi (fun u9 => wCE_gpye G a u9.1 u9.2.1 u9.2.2.1 u9.2.2.2) F (mX6_daysCanBe G a vg vp vy ve _ h) gX6_behind_X6_daysCanBe rfl hdX6_daysCanBe ⟨rfl, rfl, Nat.le_of_ble_eq_true rfl, Nat.le_of_ble_eq_true rfl, Nat.le_of_ble_eq_true rfl, Nat.le_of_ble_eq_true rfl⟩ 0 rfl rfl [0, 1, 2, 3, 4, 5, 6, 7, 8, 9, 10, 11, 12, 13, 14, 15, 16, 17, 18, 19] [] [0, 1, 2, 3, 4, 5, 6, 7, 8, 9, 10, 11, 12, 13, 14, 15, 16, 17, 18, 19] rfl rfl (by decide) (fun _ => rfl) rfl (Nat.le_of_ble_eq_true rfl) dX6_behind_13 (fun r_2 u9 h => ?_)
    obtain ⟨vg_3, vp_4, vy_5, ve_6⟩ := u9
    refine z_w (w' := wCE_gpye G a vg_3 vp_4 vy_5 ve_6) rfl ?_
    refine z_if_ne 22 F dX6_behind_16 (by decide) (fun c9 => ?_) (fun c9 => ?_)
    · have h := h.1 c9
      refine z_iload_n F dX6_behind_22 rfl 1 rfl ?_
      refine z_iconst (v := 3) F dX6_behind_23 rfl ?_
      refine z_icmp_ne 40 F dX6_behind_24 (by decide) (fun c9 => ?_) (fun c9 => ?_)
      · have h := h.1 c9
        refine z_aload_n F dX6_behind_40 rfl 0 rfl ?_
        refine z_get (ci := 6) F iX6 0 rfl rfl 3 (by decide) f0 rfl rfl dX6_behind_41 ?_
        refine z_get (ci := 1) F iX1 11 rfl rfl 0 (by decide) f1 rfl rfl dX6_behind_44 ?_
        refine z_iload_n F dX6_behind_47 rfl 1 rfl ?_
        refine z_iconst (v := 0) F dX6_behind_48 rfl ?_
        refine z_callVi (fun u9 => wCE_gpye G a vg_3 vp_4 vy_5 u9) F (mX3_seenToday G (fun k => a (20 + k)) ve_6 p1 (0 : Int32) _ h) gX6_behind_X3_seenToday rfl hdX3_seenToday ⟨rfl, rfl, Nat.le_of_ble_eq_true rfl, Nat.le_of_ble_eq_true rfl, Nat.le_of_ble_eq_true rfl, Nat.le_of_ble_eq_true rfl⟩ 12 rfl rfl [12, 13, 14, 15, 16, 17, 18, 19] [0, 1, 2, 3, 4, 5, 6, 7, 8, 9, 10, 11] [0, 1, 2, 3, 4, 5, 6, 7, 8, 9, 10, 11, 12, 13, 14, 15, 16, 17, 18, 19] rfl rfl (by decide) (fun _ => rfl) rfl (Nat.le_of_ble_eq_true rfl) dX6_behind_49 (fun r_7 ve_8 h => ?_)
        exact hret r_7 (vg_3, vp_4, vy_5, ve_8) _ _ h dX6_behind_52
      · have h := h.2 c9
        refine z_aload_n F dX6_behind_27 rfl 0 rfl ?_
        refine z_get (ci := 6) F iX6 0 rfl rfl 3 (by decide) f0 rfl rfl dX6_behind_28 ?_
        refine z_get (ci := 1) F iX1 11 rfl rfl 0 (by decide) f1 rfl rfl dX6_behind_31 ?_
        refine z_get (ci := 3) F iX3 12 rfl rfl 9 (by decide) f2 rfl rfl dX6_behind_34 ?_
        refine z_goto 52 F dX6_behind_37 (by decide) ?_
        exact hret (Gr_day ve_6) (vg_3, vp_4, vy_5, ve_6) _ _ h dX6_behind_52
    · have h := h.2 c9
      refine z_bipush (v := -5) F dX6_behind_19 rfl ?_
      exact hret (-5 : Int32) (vg_3, vp_4, vy_5, ve_6) _ _ h dX6_behind_21
  · have h := h.2 c9
    refine z_bipush (v := -2) F dX6_behind_9 rfl ?_
    exact hret (-2 : Int32) (vg, vp, vy, ve) _ _ h dX6_behind_11
abbrev rmX6_broken : Room := { frames := 6, cells := 0, slots := 0, locals := 139 }
set_option maxRecDepth 100000 in
set_option maxHeartbeats 4000000 in
theorem mX6_broken (G : ZG) (a : Nat → Nat) (vg : Gr) (vp : Pd) (vy : Dy) (ve : Gr) (Q : Int32 → Gr → Pd → Dy → Gr → Prop) (h : wpX6_broken vg vp vy ve Q) : ZMi G yX6_broken wsX6_broken rmX6_broken [.ref (a 0)] (wCE_gpye G a vg vp vy ve) (fun u9 : Gr × Pd × Dy × Gr => wCE_gpye G a u9.1 u9.2.1 u9.2.2.1 u9.2.2.2) (fun r u9 => Q r u9.1 u9.2.1 u9.2.2.1 u9.2.2.2) := by
  refine z_ofi (cc := cX6_broken) (N := 1) (lv := [(0, .ref (a 0))]) (by decide) rfl (Nat.le_of_ble_eq_true rfl) rfl (fun E F hret => ?_)
  have F : ZF E 1 cX6_broken RX6 wsX6_broken rmX6_broken G := F
  have f0 : ZW E (.fieldLink RX6 29 "ColourEcho" "days" "LColourEcho$Days;") := F.at 1 rfl
  have f1 : ZW E (.fieldLink RX6 136 "ColourEcho$Days" "firstOver" "I") := F.at 2 rfl
  have iX1 : ∀ x ∈ u_ws RX1 TX1 4, x ∈ wsX6_broken := fun _ h => List.mem_cons_of_mem _ (List.mem_append_left _ (List.mem_append_left _ (List.mem_append_right _ h)))
  have iX6 : ∀ x ∈ u_ws RX6 TX6 11, x ∈ wsX6_broken := fun _ h => List.mem_cons_of_mem _ (List.mem_append_left _ (List.mem_append_left _ (List.mem_append_left _ (List.mem_append_right _ h))))
  unfold wpX6_broken at h
  refine z_aload_n F dX6_broken_0 rfl 0 rfl ?_
  refine z_callVi (fun u9 => wCE_gpye G a u9.1 u9.2.1 u9.2.2.1 u9.2.2.2) F (mX6_daysCanBe G a vg vp vy ve _ h) gX6_broken_X6_daysCanBe rfl hdX6_daysCanBe ⟨rfl, rfl, Nat.le_of_ble_eq_true rfl, Nat.le_of_ble_eq_true rfl, Nat.le_of_ble_eq_true rfl, Nat.le_of_ble_eq_true rfl⟩ 0 rfl rfl [0, 1, 2, 3, 4, 5, 6, 7, 8, 9, 10, 11, 12, 13, 14, 15, 16, 17, 18, 19] [] [0, 1, 2, 3, 4, 5, 6, 7, 8, 9, 10, 11, 12, 13, 14, 15, 16, 17, 18, 19] rfl rfl (by decide) (fun _ => rfl) rfl (Nat.le_of_ble_eq_true rfl) dX6_broken_1 (fun r_1 u9 h => ?_)
  obtain ⟨vg_2, vp_3, vy_4, ve_5⟩ := u9
  refine z_w (w' := wCE_gpye G a vg_2 vp_3 vy_4 ve_5) rfl ?_
  refine z_if_eq 17 F dX6_broken_4 (by decide) (fun c9 => ?_) (fun c9 => ?_)
  · have h := h.1 c9
    refine z_bipush (v := -5) F dX6_broken_17 rfl ?_
    exact hret (-5 : Int32) (vg_2, vp_3, vy_4, ve_5) _ _ h dX6_broken_19
  · have h := h.2 c9
    refine z_aload_n F dX6_broken_7 rfl 0 rfl ?_
    refine z_get (ci := 6) F iX6 0 rfl rfl 3 (by decide) f0 rfl rfl dX6_broken_8 ?_
    refine z_get (ci := 1) F iX1 11 rfl rfl 3 (by decide) f1 rfl rfl dX6_broken_11 ?_
    refine z_goto 19 F dX6_broken_14 (by decide) ?_
    exact hret (Dy_firstOver vy_4) (vg_2, vp_3, vy_4, ve_5) _ _ h dX6_broken_19
abbrev rmX6_sees : Room := { frames := 2, cells := 0, slots := 0, locals := 46 }
set_option maxRecDepth 100000 in
set_option maxHeartbeats 4000000 in
theorem mX6_sees (G : ZG) (a : Nat → Nat) (vg : Gr) (p1 : Int32) (Q : Int32 → Gr → Prop) (h : wpX6_sees vg p1 Q) : ZMi G yX6_sees wsX6_sees rmX6_sees [.ref (a 0), .int p1] (wCE_g G a vg) (fun vg : Gr => wCE_g G a vg) (Q) := by
  refine z_ofi (cc := cX6_sees) (N := 2) (lv := [(0, .ref (a 0)), (1, .int p1)]) (by decide) rfl (Nat.le_of_ble_eq_true rfl) rfl (fun E F hret => ?_)
  have F : ZF E 2 cX6_sees RX6 wsX6_sees rmX6_sees G := F
  have f0 : ZW E (.fieldLink RX6 12 "ColourEcho" "gorge" "LColourEcho$Gorge;") := F.at 1 rfl
  have iX6 : ∀ x ∈ u_ws RX6 TX6 11, x ∈ wsX6_sees := fun _ h => List.mem_cons_of_mem _ (List.mem_append_left _ (List.mem_append_right _ h))
  unfold wpX6_sees at h
  refine z_iload_n F dX6_sees_0 rfl 1 rfl ?_
  refine z_callSi (fun _ => wCE_g G a vg) F (mX6_isColour G p1 _ h) gX6_sees_X6_isColour rfl hdX6_isColour ⟨rfl, rfl, Nat.le_of_ble_eq_true rfl, Nat.le_of_ble_eq_true rfl, Nat.le_of_ble_eq_true rfl, Nat.le_of_ble_eq_true rfl⟩ [] [0, 1, 2, 3, 4, 5, 6, 7, 8] [0, 1, 2, 3, 4, 5, 6, 7, 8] rfl rfl (by decide) (fun _ => rfl) rfl (Nat.le_of_ble_eq_true rfl) dX6_sees_1 (fun r_1 u9 h => ?_)
  refine z_if_eq 19 F dX6_sees_4 (by decide) (fun c9 => ?_) (fun c9 => ?_)
  · have h := h.1 c9
    refine z_bipush (v := -2) F dX6_sees_19 rfl ?_
    exact hret (-2 : Int32) vg _ _ h dX6_sees_21
  · have h := h.2 c9
    refine z_aload_n F dX6_sees_7 rfl 0 rfl ?_
    refine z_get (ci := 6) F iX6 0 rfl rfl 0 (by decide) f0 rfl rfl dX6_sees_8 ?_
    refine z_iload_n F dX6_sees_11 rfl 1 rfl ?_
    refine z_iconst (v := 0) F dX6_sees_12 rfl ?_
    refine z_callVi (fun u9 => wCE_g G a u9) F (mX3_seenToday G (fun k => a (1 + k)) vg p1 (0 : Int32) _ h) gX6_sees_X3_seenToday rfl hdX3_seenToday ⟨rfl, rfl, Nat.le_of_ble_eq_true rfl, Nat.le_of_ble_eq_true rfl, Nat.le_of_ble_eq_true rfl, Nat.le_of_ble_eq_true rfl⟩ 1 rfl rfl [1, 2, 3, 4, 5, 6, 7, 8] [0] [0, 1, 2, 3, 4, 5, 6, 7, 8] rfl rfl (by decide) (fun _ => rfl) rfl (Nat.le_of_ble_eq_true rfl) dX6_sees_13 (fun r_2 vg_3 h => ?_)
    refine z_goto 21 F dX6_sees_16 (by decide) ?_
    exact hret r_2 vg_3 _ _ h dX6_sees_21
abbrev rmX6_seenWith : Room := { frames := 3, cells := 0, slots := 0, locals := 70 }
set_option maxRecDepth 100000 in
set_option maxHeartbeats 4000000 in
theorem mX6_seenWith (G : ZG) (a : Nat → Nat) (vg : Gr) (vc : Co) (p1 : Int32) (p2 : Int32) (p3 : Int32) (Q : Int32 → Gr → Co → Prop) (h : wpX6_seenWith vg vc p1 p2 p3 Q) : ZMi G yX6_seenWith wsX6_seenWith rmX6_seenWith [.ref (a 0), .int p1, .int p2, .int p3] (wCE_gc G a vg vc) (fun u9 : Gr × Co => wCE_gc G a u9.1 u9.2) (fun r u9 => Q r u9.1 u9.2) := by
  refine z_ofi (cc := cX6_seenWith) (N := 4) (lv := [(0, .ref (a 0)), (1, .int p1), (2, .int p2), (3, .int p3)]) (by decide) rfl (Nat.le_of_ble_eq_true rfl) rfl (fun E F hret => ?_)
  have F : ZF E 4 cX6_seenWith RX6 wsX6_seenWith rmX6_seenWith G := F
  have f0 : ZW E (.fieldLink RX6 36 "ColourEcho" "course" "LColourEcho$Course;") := F.at 1 rfl
  have f1 : ZW E (.fieldLink RX6 12 "ColourEcho" "gorge" "LColourEcho$Gorge;") := F.at 2 rfl
  have iX6 : ∀ x ∈ u_ws RX6 TX6 11, x ∈ wsX6_seenWith := fun _ h => List.mem_cons_of_mem _ (List.mem_append_left _ (List.mem_append_left _ (List.mem_append_right _ h)))
  unfold wpX6_seenWith at h
  refine z_aload_n F dX6_seenWith_0 rfl 0 rfl ?_
  refine z_get (ci := 6) F iX6 0 rfl rfl 4 (by decide) f0 rfl rfl dX6_seenWith_1 ?_
  refine z_aload_n F dX6_seenWith_4 rfl 0 rfl ?_
  refine z_get (ci := 6) F iX6 0 rfl rfl 0 (by decide) f1 rfl rfl dX6_seenWith_5 ?_
  refine z_iload_n F dX6_seenWith_8 rfl 1 rfl ?_
  refine z_iload_n F dX6_seenWith_9 rfl 3 rfl ?_
  refine z_callVv (fun u9 => wCE_gc G a u9.2 u9.1) F (mX0_fromNow G (fun k => a (28 + k)) (fun k => a (1 + k)) vc vg p1 p3 _ h) gX6_seenWith_X0_fromNow rfl hdX0_fromNow ⟨rfl, rfl, Nat.le_of_ble_eq_true rfl, Nat.le_of_ble_eq_true rfl, Nat.le_of_ble_eq_true rfl, Nat.le_of_ble_eq_true rfl⟩ 9 rfl rfl [9, 10, 1, 2, 3, 4, 5, 6, 7, 8] [0] [0, 3, 4, 5, 6, 7, 8, 9, 10, 1, 2] rfl rfl (by decide) (fun _ => rfl) rfl (Nat.le_of_ble_eq_true rfl) dX6_seenWith_10 (fun u9 h => ?_)
  obtain ⟨vc_1, vg_2⟩ := u9
  refine z_w (w' := wCE_gc G a vg_2 vc_1) rfl ?_
  refine z_aload_n F dX6_seenWith_13 rfl 0 rfl ?_
  refine z_get (ci := 6) F iX6 0 rfl rfl 4 (by decide) f0 rfl rfl dX6_seenWith_14 ?_
  refine z_aload_n F dX6_seenWith_17 rfl 0 rfl ?_
  refine z_get (ci := 6) F iX6 0 rfl rfl 0 (by decide) f1 rfl rfl dX6_seenWith_18 ?_
  refine z_iload_n F dX6_seenWith_21 rfl 2 rfl ?_
  refine z_iconst (v := 0) F dX6_seenWith_22 rfl ?_
  refine z_callVv (fun u9 => wCE_gc G a u9.2 u9.1) F (mX0_run G (fun k => a (28 + k)) (fun k => a (1 + k)) vc_1 vg_2 p2 (0 : Int32) _ h) gX6_seenWith_X0_run rfl hdX0_run ⟨rfl, rfl, Nat.le_of_ble_eq_true rfl, Nat.le_of_ble_eq_true rfl, Nat.le_of_ble_eq_true rfl, Nat.le_of_ble_eq_true rfl⟩ 9 rfl rfl [9, 10, 1, 2, 3, 4, 5, 6, 7, 8] [0] [0, 3, 4, 5, 6, 7, 8, 9, 10, 1, 2] rfl rfl (by decide) (fun _ => rfl) rfl (Nat.le_of_ble_eq_true rfl) dX6_seenWith_23 (fun u9 h => ?_)
  obtain ⟨vc_3, vg_4⟩ := u9
  refine z_w (w' := wCE_gc G a vg_4 vc_3) rfl ?_
  refine z_aload_n F dX6_seenWith_26 rfl 0 rfl ?_
  refine z_get (ci := 6) F iX6 0 rfl rfl 4 (by decide) f0 rfl rfl dX6_seenWith_27 ?_
  refine z_iload_n F dX6_seenWith_30 rfl 2 rfl ?_
  refine z_callVi (fun u9 => wCE_gc G a vg_4 u9) F (mX0_at G (fun k => a (28 + k)) vc_3 p2 _ h) gX6_seenWith_X0_at rfl hdX0_at ⟨rfl, rfl, Nat.le_of_ble_eq_true rfl, Nat.le_of_ble_eq_true rfl, Nat.le_of_ble_eq_true rfl, Nat.le_of_ble_eq_true rfl⟩ 9 rfl rfl [9, 10] [0, 1, 2, 3, 4, 5, 6, 7, 8] [0, 1, 2, 3, 4, 5, 6, 7, 8, 9, 10] rfl rfl (by decide) (fun _ => rfl) rfl (Nat.le_of_ble_eq_true rfl) dX6_seenWith_31 (fun r_5 vc_6 h => ?_)
  exact hret r_5 (vg_4, vc_6) _ _ h dX6_seenWith_34
abbrev rmX6_forecast : Room := { frames := 4, cells := 0, slots := 0, locals := 93 }
set_option maxRecDepth 100000 in
set_option maxHeartbeats 4000000 in
theorem mX6_forecast (G : ZG) (a : Nat → Nat) (vg : Gr) (vc : Co) (p1 : Int32) (p2 : Int32) (Q : Int32 → Gr → Co → Prop) (h : wpX6_forecast vg vc p1 p2 Q) : ZMi G yX6_forecast wsX6_forecast rmX6_forecast [.ref (a 0), .int p1, .int p2] (wCE_gc G a vg vc) (fun u9 : Gr × Co => wCE_gc G a u9.1 u9.2) (fun r u9 => Q r u9.1 u9.2) := by
  refine z_ofi (cc := cX6_forecast) (N := 3) (lv := [(0, .ref (a 0)), (1, .int p1), (2, .int p2)]) (by decide) rfl (Nat.le_of_ble_eq_true rfl) rfl (fun E F hret => ?_)
  have F : ZF E 3 cX6_forecast RX6 wsX6_forecast rmX6_forecast G := F
  unfold wpX6_forecast at h
  refine z_iload_n F dX6_forecast_0 rfl 1 rfl ?_
  refine z_callSi (fun _ => wCE_gc G a vg vc) F (mX6_isColour G p1 _ h) gX6_forecast_X6_isColour rfl hdX6_isColour ⟨rfl, rfl, Nat.le_of_ble_eq_true rfl, Nat.le_of_ble_eq_true rfl, Nat.le_of_ble_eq_true rfl, Nat.le_of_ble_eq_true rfl⟩ [] [0, 1, 2, 3, 4, 5, 6, 7, 8, 9, 10] [0, 1, 2, 3, 4, 5, 6, 7, 8, 9, 10] rfl rfl (by decide) (fun _ => rfl) rfl (Nat.le_of_ble_eq_true rfl) dX6_forecast_1 (fun r_1 u9 h => ?_)
  refine z_if_eq 14 F dX6_forecast_4 (by decide) (fun c9 => ?_) (fun c9 => ?_)
  · have h := h.1 c9
    refine z_bipush (v := -2) F dX6_forecast_14 rfl ?_
    exact hret (-2 : Int32) (vg, vc) _ _ h dX6_forecast_16
  · have h := h.2 c9
    refine z_iload_n F dX6_forecast_7 rfl 2 rfl ?_
    refine z_callSi (fun _ => wCE_gc G a vg vc) F (mX6_isAhead G p2 _ h) gX6_forecast_X6_isAhead rfl hdX6_isAhead ⟨rfl, rfl, Nat.le_of_ble_eq_true rfl, Nat.le_of_ble_eq_true rfl, Nat.le_of_ble_eq_true rfl, Nat.le_of_ble_eq_true rfl⟩ [] [0, 1, 2, 3, 4, 5, 6, 7, 8, 9, 10] [0, 1, 2, 3, 4, 5, 6, 7, 8, 9, 10] rfl rfl (by decide) (fun _ => rfl) rfl (Nat.le_of_ble_eq_true rfl) dX6_forecast_8 (fun r_2 u9 h => ?_)
    refine z_if_ne 17 F dX6_forecast_11 (by decide) (fun c9 => ?_) (fun c9 => ?_)
    · have h := h.1 c9
      refine z_aload_n F dX6_forecast_17 rfl 0 rfl ?_
      refine z_iload_n F dX6_forecast_18 rfl 1 rfl ?_
      refine z_iload_n F dX6_forecast_19 rfl 2 rfl ?_
      refine z_iconst (v := 0) F dX6_forecast_20 rfl ?_
      refine z_callVi (fun u9 => wCE_gc G a u9.1 u9.2) F (mX6_seenWith G a vg vc p1 p2 (0 : Int32) _ h) gX6_forecast_X6_seenWith rfl hdX6_seenWith ⟨rfl, rfl, Nat.le_of_ble_eq_true rfl, Nat.le_of_ble_eq_true rfl, Nat.le_of_ble_eq_true rfl, Nat.le_of_ble_eq_true rfl⟩ 0 rfl rfl [0, 1, 2, 3, 4, 5, 6, 7, 8, 9, 10] [] [0, 1, 2, 3, 4, 5, 6, 7, 8, 9, 10] rfl rfl (by decide) (fun _ => rfl) rfl (Nat.le_of_ble_eq_true rfl) dX6_forecast_21 (fun r_3 u9 h => ?_)
      obtain ⟨vg_4, vc_5⟩ := u9
      refine z_w (w' := wCE_gc G a vg_4 vc_5) rfl ?_
      exact hret r_3 (vg_4, vc_5) _ _ h dX6_forecast_24
    · have h := h.2 c9
      refine z_bipush (v := -2) F dX6_forecast_14 rfl ?_
      exact hret (-2 : Int32) (vg, vc) _ _ h dX6_forecast_16
abbrev rmX6_gone : Room := { frames := 4, cells := 0, slots := 0, locals := 84 }
set_option maxRecDepth 100000 in
set_option maxHeartbeats 4000000 in
theorem mX6_gone (G : ZG) (a : Nat → Nat) (vg : Gr) (vc : Co) (Q : Int32 → Gr → Co → Prop) (h : wpX6_gone vg vc Q) : ZMi G yX6_gone wsX6_gone rmX6_gone [.ref (a 0)] (wCE_gc G a vg vc) (fun u9 : Gr × Co => wCE_gc G a u9.1 u9.2) (fun r u9 => Q r u9.1 u9.2) := by
  refine z_ofi (cc := cX6_gone) (N := 3) (lv := [(0, .ref (a 0))]) (by decide) rfl (Nat.le_of_ble_eq_true rfl) rfl (fun E F hret => ?_)
  have F : ZF E 3 cX6_gone RX6 wsX6_gone rmX6_gone G := F
  have f0 : ZW E (.fieldLink RX6 36 "ColourEcho" "course" "LColourEcho$Course;") := F.at 1 rfl
  have f1 : ZW E (.fieldLink RX6 12 "ColourEcho" "gorge" "LColourEcho$Gorge;") := F.at 2 rfl
  have f2 : ZW E (.methodLink RX6 159 Lib.Math.max.name) := F.at 3 rfl
  have f3 : ZW E (.static Lib.Math.max.name) := F.at 4 rfl
  have f4 : ZW E (.initialized "java/lang/Math") := F.at 5 rfl
  have f5 : ZW E (.code Lib.Math.max.name Lib.Math.max.code 2 (some .int)) := F.at 6 rfl
  have iX6 : ∀ x ∈ u_ws RX6 TX6 11, x ∈ wsX6_gone := fun _ h => List.mem_cons_of_mem _ (List.mem_append_left _ (List.mem_append_left _ (List.mem_append_right _ h)))
  have t4 : ∀ (n : Nat) (vg : Gr) (vc : Co) (x1 : Int32) (x2 : Int32), wpX6_gone_L4 Q n vg vc x1 x2 → Z E 3 0 0 (wCE_gc G a vg vc) [(0, .ref (a 0)), (1, .int x1), (2, .int x2)] 4 [] := by
    intro n
    induction n with
    | zero => intro vg vc x1 x2 h; exact h.elim
    | succ n ihQ =>
      have ih4 : ∀ (vg : Gr) (vc : Co) (x1 : Int32) (x2 : Int32), wpX6_gone_L4 Q n vg vc x1 x2 → Z E 3 0 0 (wCE_gc G a vg vc) [(0, .ref (a 0)), (1, .int x1), (2, .int x2)] 4 [] := ihQ
      intro vg vc x1 x2 h
      have h : wpX6_gone_H4 Q (wpX6_gone_L4 Q n) vg vc x1 x2 := h
      generalize wpX6_gone_L4 Q n = K4 at h ih4
      clear ihQ
      unfold wpX6_gone_H4 at h
      refine z_iload_n F dX6_gone_4 rfl 2 rfl ?_
      refine z_iconst (v := 3) F dX6_gone_5 rfl ?_
      refine z_icmp_ge 56 F dX6_gone_6 (by decide) (fun c9 => ?_) (fun c9 => ?_)
      · have h := h.1 c9
        refine z_iload_n F dX6_gone_56 rfl 1 rfl ?_
        refine z_bipush (v := 60) F dX6_gone_57 rfl ?_
        refine z_icmp_le 67 F dX6_gone_59 (by decide) (fun c9 => ?_) (fun c9 => ?_)
        · have h := h.1 c9
          refine z_iload_n F dX6_gone_67 rfl 1 rfl ?_
          exact hret x1 (vg, vc) _ _ h dX6_gone_68
        · have h := h.2 c9
          refine z_bipush (v := -6) F dX6_gone_62 rfl ?_
          refine z_goto 68 F dX6_gone_64 (by decide) ?_
          exact hret (-6 : Int32) (vg, vc) _ _ h dX6_gone_68
      · have h := h.2 c9
        refine z_aload_n F dX6_gone_9 rfl 0 rfl ?_
        refine z_get (ci := 6) F iX6 0 rfl rfl 4 (by decide) f0 rfl rfl dX6_gone_10 ?_
        refine z_aload_n F dX6_gone_13 rfl 0 rfl ?_
        refine z_get (ci := 6) F iX6 0 rfl rfl 0 (by decide) f1 rfl rfl dX6_gone_14 ?_
        refine z_iload_n F dX6_gone_17 rfl 2 rfl ?_
        refine z_iconst (v := 0) F dX6_gone_18 rfl ?_
        refine z_callVv (fun u9 => wCE_gc G a u9.2 u9.1) F (mX0_fromNow G (fun k => a (28 + k)) (fun k => a (1 + k)) vc vg x2 (0 : Int32) _ h) gX6_gone_X0_fromNow rfl hdX0_fromNow ⟨rfl, rfl, Nat.le_of_ble_eq_true rfl, Nat.le_of_ble_eq_true rfl, Nat.le_of_ble_eq_true rfl, Nat.le_of_ble_eq_true rfl⟩ 9 rfl rfl [9, 10, 1, 2, 3, 4, 5, 6, 7, 8] [0] [0, 3, 4, 5, 6, 7, 8, 9, 10, 1, 2] rfl rfl (by decide) (fun _ => rfl) rfl (Nat.le_of_ble_eq_true rfl) dX6_gone_19 (fun u9 h => ?_)
        obtain ⟨vc_1, vg_2⟩ := u9
        refine z_w (w' := wCE_gc G a vg_2 vc_1) rfl ?_
        refine z_aload_n F dX6_gone_22 rfl 0 rfl ?_
        refine z_get (ci := 6) F iX6 0 rfl rfl 4 (by decide) f0 rfl rfl dX6_gone_23 ?_
        refine z_aload_n F dX6_gone_26 rfl 0 rfl ?_
        refine z_get (ci := 6) F iX6 0 rfl rfl 0 (by decide) f1 rfl rfl dX6_gone_27 ?_
        refine z_bipush (v := 60) F dX6_gone_30 rfl ?_
        refine z_iconst (v := 0) F dX6_gone_32 rfl ?_
        refine z_callVv (fun u9 => wCE_gc G a u9.2 u9.1) F (mX0_run G (fun k => a (28 + k)) (fun k => a (1 + k)) vc_1 vg_2 (60 : Int32) (0 : Int32) _ h) gX6_gone_X0_run rfl hdX0_run ⟨rfl, rfl, Nat.le_of_ble_eq_true rfl, Nat.le_of_ble_eq_true rfl, Nat.le_of_ble_eq_true rfl, Nat.le_of_ble_eq_true rfl⟩ 9 rfl rfl [9, 10, 1, 2, 3, 4, 5, 6, 7, 8] [0] [0, 3, 4, 5, 6, 7, 8, 9, 10, 1, 2] rfl rfl (by decide) (fun _ => rfl) rfl (Nat.le_of_ble_eq_true rfl) dX6_gone_33 (fun u9 h => ?_)
        obtain ⟨vc_3, vg_4⟩ := u9
        refine z_w (w' := wCE_gc G a vg_4 vc_3) rfl ?_
        refine z_iload_n F dX6_gone_36 rfl 1 rfl ?_
        refine z_aload_n F dX6_gone_37 rfl 0 rfl ?_
        refine z_get (ci := 6) F iX6 0 rfl rfl 4 (by decide) f0 rfl rfl dX6_gone_38 ?_
        refine z_callVi (fun u9 => wCE_gc G a vg_4 u9) F (mX0_lastSeen G (fun k => a (28 + k)) vc_3 _ h) gX6_gone_X0_lastSeen rfl hdX0_lastSeen ⟨rfl, rfl, Nat.le_of_ble_eq_true rfl, Nat.le_of_ble_eq_true rfl, Nat.le_of_ble_eq_true rfl, Nat.le_of_ble_eq_true rfl⟩ 9 rfl rfl [9, 10] [0, 1, 2, 3, 4, 5, 6, 7, 8] [0, 1, 2, 3, 4, 5, 6, 7, 8, 9, 10] rfl rfl (by decide) (fun _ => rfl) rfl (Nat.le_of_ble_eq_true rfl) dX6_gone_41 (fun r_5 vc_6 h => ?_)
        refine z_iconst (v := 1) F dX6_gone_44 rfl ?_
        refine z_iadd F dX6_gone_45 ?_
        refine z_max F f2 f3 f4 f5 ⟨Nat.le_of_ble_eq_true rfl, Nat.le_of_ble_eq_true rfl, Nat.le_of_ble_eq_true rfl, Nat.le_of_ble_eq_true rfl⟩ dX6_gone_46 ?_
        refine z_topi (fun x1_7 e9 => ?_)
        have h := h x1_7 e9
        refine z_istore_n [(1, .int x1_7), (0, .ref (a 0)), (2, .int x2)] F dX6_gone_49 rfl (by decide) rfl ?_
        obtain ⟨x2_8, e9⟩ : ∃ z : Int32, z = x2 + 1 := ⟨_, rfl⟩
        have h := h x2_8 e9
        refine z_iinc (v := x2_8) [(2, .int x2_8), (1, .int x1_7), (0, .ref (a 0))] F dX6_gone_50 2 rfl (by rw [e9]; rfl) (by decide) rfl ?_
        refine z_goto 4 F dX6_gone_53 (by decide) ?_
        exact z_lv [2, 1, 0] rfl (ih4 vg_4 vc_6 x1_7 x2_8 h)
  unfold wpX6_gone at h
  refine z_iconst (v := 0) F dX6_gone_0 rfl ?_
  refine z_istore_n [(1, .int (0 : Int32)), (0, .ref (a 0))] F dX6_gone_1 rfl (by decide) rfl ?_
  refine z_iconst (v := 0) F dX6_gone_2 rfl ?_
  refine z_istore_n [(2, .int (0 : Int32)), (1, .int (0 : Int32)), (0, .ref (a 0))] F dX6_gone_3 rfl (by decide) rfl ?_
  obtain ⟨n9, h⟩ := h
  exact z_lv [2, 1, 0] rfl (t4 n9 vg vc (0 : Int32) (0 : Int32) h)
abbrev rmX6_hue : Room := { frames := 4, cells := 0, slots := 0, locals := 93 }
set_option maxRecDepth 100000 in
set_option maxHeartbeats 4000000 in
theorem mX6_hue (G : ZG) (a : Nat → Nat) (vg : Gr) (vc : Co) (p1 : Int32) (Q : Int32 → Gr → Co → Prop) (h : wpX6_hue vg vc p1 Q) : ZMi G yX6_hue wsX6_hue rmX6_hue [.ref (a 0), .int p1] (wCE_gc G a vg vc) (fun u9 : Gr × Co => wCE_gc G a u9.1 u9.2) (fun r u9 => Q r u9.1 u9.2) := by
  refine z_ofi (cc := cX6_hue) (N := 6) (lv := [(0, .ref (a 0)), (1, .int p1)]) (by decide) rfl (Nat.le_of_ble_eq_true rfl) rfl (fun E F hret => ?_)
  have F : ZF E 6 cX6_hue RX6 wsX6_hue rmX6_hue G := F
  have t46 : ∀ (K18 : Gr → Co → Int32 → Int32 → Int32 → Int32 → Prop) (ih18 : ∀ (vg : Gr) (vc : Co) (x1 : Int32) (x2 : Int32) (x3 : Int32) (x4 : Int32), K18 vg vc x1 x2 x3 x4 → Z E 6 0 0 (wCE_gc G a vg vc) [(0, .ref (a 0)), (1, .int x1), (2, .int x2), (3, .int x3), (4, .int x4)] 18 []) (vg : Gr) (vc : Co) (x1 : Int32) (x2 : Int32) (x3 : Int32) (x4 : Int32), wpX6_hue_B46 Q K18 vg vc x1 x2 x3 x4 → Z E 6 0 0 (wCE_gc G a vg vc) [(0, .ref (a 0)), (1, .int x1), (2, .int x2), (3, .int x3), (4, .int x4)] 46 [] := by
    intro K18 ih18 vg vc x1 x2 x3 x4 h
    unfold wpX6_hue_B46 at h
    obtain ⟨x4_5, e9⟩ : ∃ z : Int32, z = x4 + 1 := ⟨_, rfl⟩
    have h := h x4_5 e9
    refine z_iinc (v := x4_5) [(4, .int x4_5), (0, .ref (a 0)), (1, .int x1), (2, .int x2), (3, .int x3)] F dX6_hue_46 4 rfl (by rw [e9]; rfl) (by decide) rfl ?_
    refine z_goto 18 F dX6_hue_49 (by decide) ?_
    exact z_lv [1, 2, 3, 4, 0] rfl (ih18 vg vc x1 x2 x3 x4_5 h)
  have t18 : ∀ (n : Nat) (vg : Gr) (vc : Co) (x1 : Int32) (x2 : Int32) (x3 : Int32) (x4 : Int32), wpX6_hue_L18 Q n vg vc x1 x2 x3 x4 → Z E 6 0 0 (wCE_gc G a vg vc) [(0, .ref (a 0)), (1, .int x1), (2, .int x2), (3, .int x3), (4, .int x4)] 18 [] := by
    intro n
    induction n with
    | zero => intro vg vc x1 x2 x3 x4 h; exact h.elim
    | succ n ihQ =>
      have ih18 : ∀ (vg : Gr) (vc : Co) (x1 : Int32) (x2 : Int32) (x3 : Int32) (x4 : Int32), wpX6_hue_L18 Q n vg vc x1 x2 x3 x4 → Z E 6 0 0 (wCE_gc G a vg vc) [(0, .ref (a 0)), (1, .int x1), (2, .int x2), (3, .int x3), (4, .int x4)] 18 [] := ihQ
      intro vg vc x1 x2 x3 x4 h
      have h : wpX6_hue_H18 Q (wpX6_hue_L18 Q n) vg vc x1 x2 x3 x4 := h
      generalize wpX6_hue_L18 Q n = K18 at h ih18
      clear ihQ
      unfold wpX6_hue_H18 at h
      refine z_iload F dX6_hue_18 4 rfl ?_
      refine z_iconst (v := 3) F dX6_hue_20 rfl ?_
      refine z_icmp_ge 52 F dX6_hue_21 (by decide) (fun c9 => ?_) (fun c9 => ?_)
      · have h := h.1 c9
        refine z_iload_n F dX6_hue_52 rfl 2 rfl ?_
        exact hret x2 (vg, vc) _ _ h dX6_hue_53
      · have h := h.2 c9
        refine z_aload_n F dX6_hue_24 rfl 0 rfl ?_
        refine z_iload F dX6_hue_25 4 rfl ?_
        refine z_iload_n F dX6_hue_27 rfl 1 rfl ?_
        refine z_iconst (v := 0) F dX6_hue_28 rfl ?_
        refine z_callVi (fun u9 => wCE_gc G a u9.1 u9.2) F (mX6_seenWith G a vg vc x4 x1 (0 : Int32) _ h) gX6_hue_X6_seenWith rfl hdX6_seenWith ⟨rfl, rfl, Nat.le_of_ble_eq_true rfl, Nat.le_of_ble_eq_true rfl, Nat.le_of_ble_eq_true rfl, Nat.le_of_ble_eq_true rfl⟩ 0 rfl rfl [0, 1, 2, 3, 4, 5, 6, 7, 8, 9, 10] [] [0, 1, 2, 3, 4, 5, 6, 7, 8, 9, 10] rfl rfl (by decide) (fun _ => rfl) rfl (Nat.le_of_ble_eq_true rfl) dX6_hue_29 (fun r_2 u9 h => ?_)
        obtain ⟨vg_3, vc_4⟩ := u9
        refine z_w (w' := wCE_gc G a vg_3 vc_4) rfl ?_
        refine z_istore [(5, .int r_2), (0, .ref (a 0)), (1, .int x1), (2, .int x2), (3, .int x3), (4, .int x4)] F dX6_hue_32 (by decide) rfl ?_
        refine z_iload F dX6_hue_34 0 rfl ?_
        refine z_iload_n F dX6_hue_36 rfl 4 rfl ?_
        refine z_icmp_le 46 F dX6_hue_37 (by decide) (fun c9 => ?_) (fun c9 => ?_)
        · have h := h.1 c9
          exact z_lv [1, 2, 3, 4, 5] rfl (t46 K18 ih18 vg_3 vc_4 x1 x2 x3 x4 h)
        · have h := h.2 c9
          refine z_iload F dX6_hue_40 0 rfl ?_
          refine z_istore_n [(3, .int r_2), (5, .int r_2), (0, .ref (a 0)), (1, .int x1), (2, .int x2), (4, .int x4)] F dX6_hue_42 rfl (by decide) rfl ?_
          refine z_iload F dX6_hue_43 5 rfl ?_
          refine z_istore_n [(2, .int x4), (3, .int r_2), (5, .int r_2), (0, .ref (a 0)), (1, .int x1), (4, .int x4)] F dX6_hue_45 rfl (by decide) rfl ?_
          exact z_lv [3, 4, 0, 1, 5] rfl (t46 K18 ih18 vg_3 vc_4 x1 x4 r_2 x4 h)
  unfold wpX6_hue at h
  refine z_iload_n F dX6_hue_0 rfl 1 rfl ?_
  refine z_callSi (fun _ => wCE_gc G a vg vc) F (mX6_isAhead G p1 _ h) gX6_hue_X6_isAhead rfl hdX6_isAhead ⟨rfl, rfl, Nat.le_of_ble_eq_true rfl, Nat.le_of_ble_eq_true rfl, Nat.le_of_ble_eq_true rfl, Nat.le_of_ble_eq_true rfl⟩ [] [0, 1, 2, 3, 4, 5, 6, 7, 8, 9, 10] [0, 1, 2, 3, 4, 5, 6, 7, 8, 9, 10] rfl rfl (by decide) (fun _ => rfl) rfl (Nat.le_of_ble_eq_true rfl) dX6_hue_1 (fun r_1 u9 h => ?_)
  refine z_if_ne 10 F dX6_hue_4 (by decide) (fun c9 => ?_) (fun c9 => ?_)
  · have h := h.1 c9
    refine z_bipush (v := -6) F dX6_hue_10 rfl ?_
    refine z_istore_n [(2, .int (-6 : Int32)), (0, .ref (a 0)), (1, .int p1)] F dX6_hue_12 rfl (by decide) rfl ?_
    refine z_iconst (v := 0) F dX6_hue_13 rfl ?_
    refine z_istore_n [(3, .int (0 : Int32)), (2, .int (-6 : Int32)), (0, .ref (a 0)), (1, .int p1)] F dX6_hue_14 rfl (by decide) rfl ?_
    refine z_iconst (v := 0) F dX6_hue_15 rfl ?_
    refine z_istore [(4, .int (0 : Int32)), (3, .int (0 : Int32)), (2, .int (-6 : Int32)), (0, .ref (a 0)), (1, .int p1)] F dX6_hue_16 (by decide) rfl ?_
    obtain ⟨n9, h⟩ := h
    exact z_lv [3, 4, 2, 1, 0] rfl (t18 n9 vg vc p1 (-6 : Int32) (0 : Int32) (0 : Int32) h)
  · have h := h.2 c9
    refine z_bipush (v := -2) F dX6_hue_7 rfl ?_
    exact hret (-2 : Int32) (vg, vc) _ _ h dX6_hue_9
abbrev rmX6_leastShow : Room := { frames := 4, cells := 0, slots := 0, locals := 93 }
set_option maxRecDepth 100000 in
set_option maxHeartbeats 4000000 in
theorem mX6_leastShow (G : ZG) (a : Nat → Nat) (vg : Gr) (vc : Co) (p1 : Int32) (p2 : Int32) (p3 : Int32) (Q : Int32 → Gr → Co → Prop) (h : wpX6_leastShow vg vc p1 p2 p3 Q) : ZMi G yX6_leastShow wsX6_leastShow rmX6_leastShow [.ref (a 0), .int p1, .int p2, .int p3] (wCE_gc G a vg vc) (fun u9 : Gr × Co => wCE_gc G a u9.1 u9.2) (fun r u9 => Q r u9.1 u9.2) := by
  refine z_ofi (cc := cX6_leastShow) (N := 8) (lv := [(0, .ref (a 0)), (1, .int p1), (2, .int p2), (3, .int p3)]) (by decide) rfl (Nat.le_of_ble_eq_true rfl) rfl (fun E F hret => ?_)
  have F : ZF E 8 cX6_leastShow RX6 wsX6_leastShow rmX6_leastShow G := F
  have t59 : ∀ (K11 : Gr → Co → Int32 → Int32 → Int32 → Int32 → Int32 → Int32 → Prop) (ih11 : ∀ (vg : Gr) (vc : Co) (x1 : Int32) (x2 : Int32) (x3 : Int32) (x4 : Int32) (x5 : Int32) (x6 : Int32), K11 vg vc x1 x2 x3 x4 x5 x6 → Z E 8 0 0 (wCE_gc G a vg vc) [(0, .ref (a 0)), (1, .int x1), (2, .int x2), (3, .int x3), (4, .int x4), (5, .int x5), (6, .int x6)] 11 []) (vg : Gr) (vc : Co) (x1 : Int32) (x2 : Int32) (x3 : Int32) (x4 : Int32) (x5 : Int32) (x6 : Int32), wpX6_leastShow_B59 Q K11 vg vc x1 x2 x3 x4 x5 x6 → Z E 8 0 0 (wCE_gc G a vg vc) [(0, .ref (a 0)), (1, .int x1), (2, .int x2), (3, .int x3), (4, .int x4), (5, .int x5), (6, .int x6)] 59 [] := by
    intro K11 ih11 vg vc x1 x2 x3 x4 x5 x6 h
    unfold wpX6_leastShow_B59 at h
    obtain ⟨x6_6, e9⟩ : ∃ z : Int32, z = x6 + 1 := ⟨_, rfl⟩
    have h := h x6_6 e9
    refine z_iinc (v := x6_6) [(6, .int x6_6), (0, .ref (a 0)), (1, .int x1), (2, .int x2), (3, .int x3), (4, .int x4), (5, .int x5)] F dX6_leastShow_59 6 rfl (by rw [e9]; rfl) (by decide) rfl ?_
    refine z_goto 11 F dX6_leastShow_62 (by decide) ?_
    exact z_lv [1, 2, 3, 4, 5, 6, 0] rfl (ih11 vg vc x1 x2 x3 x4 x5 x6_6 h)
  have t11 : ∀ (n : Nat) (vg : Gr) (vc : Co) (x1 : Int32) (x2 : Int32) (x3 : Int32) (x4 : Int32) (x5 : Int32) (x6 : Int32), wpX6_leastShow_L11 Q n vg vc x1 x2 x3 x4 x5 x6 → Z E 8 0 0 (wCE_gc G a vg vc) [(0, .ref (a 0)), (1, .int x1), (2, .int x2), (3, .int x3), (4, .int x4), (5, .int x5), (6, .int x6)] 11 [] := by
    intro n
    induction n with
    | zero => intro vg vc x1 x2 x3 x4 x5 x6 h; exact h.elim
    | succ n ihQ =>
      have ih11 : ∀ (vg : Gr) (vc : Co) (x1 : Int32) (x2 : Int32) (x3 : Int32) (x4 : Int32) (x5 : Int32) (x6 : Int32), wpX6_leastShow_L11 Q n vg vc x1 x2 x3 x4 x5 x6 → Z E 8 0 0 (wCE_gc G a vg vc) [(0, .ref (a 0)), (1, .int x1), (2, .int x2), (3, .int x3), (4, .int x4), (5, .int x5), (6, .int x6)] 11 [] := ihQ
      intro vg vc x1 x2 x3 x4 x5 x6 h
      have h : wpX6_leastShow_H11 Q (wpX6_leastShow_L11 Q n) vg vc x1 x2 x3 x4 x5 x6 := h
      generalize wpX6_leastShow_L11 Q n = K11 at h ih11
      clear ihQ
      unfold wpX6_leastShow_H11 at h
      refine z_iload F dX6_leastShow_11 6 rfl ?_
      refine z_bipush (v := 20) F dX6_leastShow_13 rfl ?_
      refine z_icmp_ge 65 F dX6_leastShow_15 (by decide) (fun c9 => ?_) (fun c9 => ?_)
      · have h := h.1 c9
        refine z_iload F dX6_leastShow_65 4 rfl ?_
        exact hret x4 (vg, vc) _ _ h dX6_leastShow_67
      · have h := h.2 c9
        refine z_iload F dX6_leastShow_18 4 rfl ?_
        refine z_iload F dX6_leastShow_20 5 rfl ?_
        refine z_icmp_ge 65 F dX6_leastShow_22 (by decide) (fun c9 => ?_) (fun c9 => ?_)
        · have h := h.1 c9
          refine z_iload F dX6_leastShow_65 4 rfl ?_
          exact hret x4 (vg, vc) _ _ h dX6_leastShow_67
        · have h := h.2 c9
          refine z_iload F dX6_leastShow_25 4 rfl ?_
          refine z_iload F dX6_leastShow_27 5 rfl ?_
          refine z_iadd F dX6_leastShow_29 ?_
          refine z_iconst (v := 2) F dX6_leastShow_30 rfl ?_
          refine z_idiv F dX6_leastShow_31 (by decide) ?_
          refine z_topi (fun x7_1 e9 => ?_)
          have h := h x7_1 e9
          refine z_istore [(7, .int x7_1), (0, .ref (a 0)), (1, .int x1), (2, .int x2), (3, .int x3), (4, .int x4), (5, .int x5), (6, .int x6)] F dX6_leastShow_32 (by decide) rfl ?_
          refine z_aload_n F dX6_leastShow_34 rfl 1 rfl ?_
          refine z_iload_n F dX6_leastShow_35 rfl 2 rfl ?_
          refine z_iload_n F dX6_leastShow_36 rfl 3 rfl ?_
          refine z_iload F dX6_leastShow_37 0 rfl ?_
          refine z_callVi (fun u9 => wCE_gc G a u9.1 u9.2) F (mX6_seenWith G a vg vc x1 x2 x7_1 _ h) gX6_leastShow_X6_seenWith rfl hdX6_seenWith ⟨rfl, rfl, Nat.le_of_ble_eq_true rfl, Nat.le_of_ble_eq_true rfl, Nat.le_of_ble_eq_true rfl, Nat.le_of_ble_eq_true rfl⟩ 0 rfl rfl [0, 1, 2, 3, 4, 5, 6, 7, 8, 9, 10] [] [0, 1, 2, 3, 4, 5, 6, 7, 8, 9, 10] rfl rfl (by decide) (fun _ => rfl) rfl (Nat.le_of_ble_eq_true rfl) dX6_leastShow_39 (fun r_2 u9 h => ?_)
          obtain ⟨vg_3, vc_4⟩ := u9
          refine z_w (w' := wCE_gc G a vg_3 vc_4) rfl ?_
          refine z_iload_n F dX6_leastShow_42 rfl 4 rfl ?_
          refine z_icmp_lt 53 F dX6_leastShow_43 (by decide) (fun c9 => ?_) (fun c9 => ?_)
          · have h := h.1 c9
            refine z_iload F dX6_leastShow_53 0 rfl ?_
            refine z_iconst (v := 1) F dX6_leastShow_55 rfl ?_
            refine z_iadd F dX6_leastShow_56 ?_
            refine z_topi (fun x4_5 e9 => ?_)
            have h := h x4_5 e9
            refine z_istore [(4, .int x4_5), (7, .int x7_1), (0, .ref (a 0)), (1, .int x1), (2, .int x2), (3, .int x3), (5, .int x5), (6, .int x6)] F dX6_leastShow_57 (by decide) rfl ?_
            exact z_lv [2, 3, 4, 5, 0, 6, 7] rfl (t59 K11 ih11 vg_3 vc_4 x1 x2 x3 x4_5 x5 x6 h)
          · have h := h.2 c9
            refine z_iload F dX6_leastShow_46 0 rfl ?_
            refine z_istore [(5, .int x7_1), (7, .int x7_1), (0, .ref (a 0)), (1, .int x1), (2, .int x2), (3, .int x3), (4, .int x4), (6, .int x6)] F dX6_leastShow_48 (by decide) rfl ?_
            refine z_goto 59 F dX6_leastShow_50 (by decide) ?_
            exact z_lv [2, 3, 4, 5, 6, 0, 7] rfl (t59 K11 ih11 vg_3 vc_4 x1 x2 x3 x4 x7_1 x6 h)
  unfold wpX6_leastShow at h
  refine z_iconst (v := 0) F dX6_leastShow_0 rfl ?_
  refine z_istore [(4, .int (0 : Int32)), (0, .ref (a 0)), (1, .int p1), (2, .int p2), (3, .int p3)] F dX6_leastShow_1 (by decide) rfl ?_
  refine z_sipush (v := 1000) F dX6_leastShow_3 rfl ?_
  refine z_istore [(5, .int (1000 : Int32)), (4, .int (0 : Int32)), (0, .ref (a 0)), (1, .int p1), (2, .int p2), (3, .int p3)] F dX6_leastShow_6 (by decide) rfl ?_
  refine z_iconst (v := 0) F dX6_leastShow_8 rfl ?_
  refine z_istore [(6, .int (0 : Int32)), (5, .int (1000 : Int32)), (4, .int (0 : Int32)), (0, .ref (a 0)), (1, .int p1), (2, .int p2), (3, .int p3)] F dX6_leastShow_9 (by decide) rfl ?_
  obtain ⟨n9, h⟩ := h
  exact z_lv [3, 4, 5, 6, 2, 1, 0] rfl (t11 n9 vg vc p1 p2 p3 (0 : Int32) (1000 : Int32) (0 : Int32) h)
abbrev rmX6_make : Room := { frames := 5, cells := 0, slots := 0, locals := 120 }
set_option maxRecDepth 100000 in
set_option maxHeartbeats 4000000 in
theorem mX6_make (G : ZG) (a : Nat → Nat) (vg : Gr) (vc : Co) (p1 : Int32) (p2 : Int32) (p3 : Int32) (p4 : Int32) (Q : Int32 → Gr → Co → Prop) (h : wpX6_make vg vc p1 p2 p3 p4 Q) : ZMi G yX6_make wsX6_make rmX6_make [.ref (a 0), .int p1, .int p2, .int p3, .int p4] (wCE_gc G a vg vc) (fun u9 : Gr × Co => wCE_gc G a u9.1 u9.2) (fun r u9 => Q r u9.1 u9.2) := by
  refine z_ofi (cc := cX6_make) (N := 6) (lv := [(0, .ref (a 0)), (1, .int p1), (2, .int p2), (3, .int p3), (4, .int p4)]) (by decide) rfl (Nat.le_of_ble_eq_true rfl) rfl (fun E F hret => ?_)
  have F : ZF E 6 cX6_make RX6 wsX6_make rmX6_make G := F
  unfold wpX6_make at h
  refine z_iload_n F dX6_make_0 rfl 1 rfl ?_
  refine z_callSi (fun _ => wCE_gc G a vg vc) F (mX6_isColour G p1 _ h) gX6_make_X6_isColour rfl hdX6_isColour ⟨rfl, rfl, Nat.le_of_ble_eq_true rfl, Nat.le_of_ble_eq_true rfl, Nat.le_of_ble_eq_true rfl, Nat.le_of_ble_eq_true rfl⟩ [] [0, 1, 2, 3, 4, 5, 6, 7, 8, 9, 10] [0, 1, 2, 3, 4, 5, 6, 7, 8, 9, 10] rfl rfl (by decide) (fun _ => rfl) rfl (Nat.le_of_ble_eq_true rfl) dX6_make_1 (fun r_1 u9 h => ?_)
  refine z_if_eq 31 F dX6_make_4 (by decide) (fun c9 => ?_) (fun c9 => ?_)
  · have h := h.1 c9
    refine z_bipush (v := -2) F dX6_make_31 rfl ?_
    exact hret (-2 : Int32) (vg, vc) _ _ h dX6_make_33
  · have h := h.2 c9
    refine z_iload_n F dX6_make_7 rfl 2 rfl ?_
    refine z_callSi (fun _ => wCE_gc G a vg vc) F (mX6_isAhead G p2 _ h) gX6_make_X6_isAhead rfl hdX6_isAhead ⟨rfl, rfl, Nat.le_of_ble_eq_true rfl, Nat.le_of_ble_eq_true rfl, Nat.le_of_ble_eq_true rfl, Nat.le_of_ble_eq_true rfl⟩ [] [0, 1, 2, 3, 4, 5, 6, 7, 8, 9, 10] [0, 1, 2, 3, 4, 5, 6, 7, 8, 9, 10] rfl rfl (by decide) (fun _ => rfl) rfl (Nat.le_of_ble_eq_true rfl) dX6_make_8 (fun r_2 u9 h => ?_)
    refine z_if_eq 31 F dX6_make_11 (by decide) (fun c9 => ?_) (fun c9 => ?_)
    · have h := h.1 c9
      refine z_bipush (v := -2) F dX6_make_31 rfl ?_
      exact hret (-2 : Int32) (vg, vc) _ _ h dX6_make_33
    · have h := h.2 c9
      refine z_iload_n F dX6_make_14 rfl 3 rfl ?_
      refine z_callSi (fun _ => wCE_gc G a vg vc) F (mX6_isAmount G p3 _ h) gX6_make_X6_isAmount rfl hdX6_isAmount ⟨rfl, rfl, Nat.le_of_ble_eq_true rfl, Nat.le_of_ble_eq_true rfl, Nat.le_of_ble_eq_true rfl, Nat.le_of_ble_eq_true rfl⟩ [] [0, 1, 2, 3, 4, 5, 6, 7, 8, 9, 10] [0, 1, 2, 3, 4, 5, 6, 7, 8, 9, 10] rfl rfl (by decide) (fun _ => rfl) rfl (Nat.le_of_ble_eq_true rfl) dX6_make_15 (fun r_3 u9 h => ?_)
      refine z_if_eq 31 F dX6_make_18 (by decide) (fun c9 => ?_) (fun c9 => ?_)
      · have h := h.1 c9
        refine z_bipush (v := -2) F dX6_make_31 rfl ?_
        exact hret (-2 : Int32) (vg, vc) _ _ h dX6_make_33
      · have h := h.2 c9
        refine z_iload F dX6_make_21 4 rfl ?_
        refine z_iconst (v := 0) F dX6_make_23 rfl ?_
        refine z_iconst (v := 1) F dX6_make_24 rfl ?_
        refine z_callSi (fun _ => wCE_gc G a vg vc) F (mX6_isWithin G p4 (0 : Int32) (1 : Int32) _ h) gX6_make_X6_isWithin rfl hdX6_isWithin ⟨rfl, rfl, Nat.le_of_ble_eq_true rfl, Nat.le_of_ble_eq_true rfl, Nat.le_of_ble_eq_true rfl, Nat.le_of_ble_eq_true rfl⟩ [] [0, 1, 2, 3, 4, 5, 6, 7, 8, 9, 10] [0, 1, 2, 3, 4, 5, 6, 7, 8, 9, 10] rfl rfl (by decide) (fun _ => rfl) rfl (Nat.le_of_ble_eq_true rfl) dX6_make_25 (fun r_4 u9 h => ?_)
        refine z_if_ne 34 F dX6_make_28 (by decide) (fun c9 => ?_) (fun c9 => ?_)
        · have h := h.1 c9
          refine z_aload_n F dX6_make_34 rfl 0 rfl ?_
          refine z_iload_n F dX6_make_35 rfl 1 rfl ?_
          refine z_iload_n F dX6_make_36 rfl 2 rfl ?_
          refine z_iload_n F dX6_make_37 rfl 3 rfl ?_
          refine z_callVi (fun u9 => wCE_gc G a u9.1 u9.2) F (mX6_leastShow G a vg vc p1 p2 p3 _ h) gX6_make_X6_leastShow rfl hdX6_leastShow ⟨rfl, rfl, Nat.le_of_ble_eq_true rfl, Nat.le_of_ble_eq_true rfl, Nat.le_of_ble_eq_true rfl, Nat.le_of_ble_eq_true rfl⟩ 0 rfl rfl [0, 1, 2, 3, 4, 5, 6, 7, 8, 9, 10] [] [0, 1, 2, 3, 4, 5, 6, 7, 8, 9, 10] rfl rfl (by decide) (fun _ => rfl) rfl (Nat.le_of_ble_eq_true rfl) dX6_make_38 (fun r_5 u9 h => ?_)
          obtain ⟨vg_6, vc_7⟩ := u9
          refine z_w (w' := wCE_gc G a vg_6 vc_7) rfl ?_
          refine z_istore [(5, .int r_5), (0, .ref (a 0)), (1, .int p1), (2, .int p2), (3, .int p3), (4, .int p4)] F dX6_make_41 (by decide) rfl ?_
          refine z_iload F dX6_make_43 0 rfl ?_
          refine z_sipush (v := 999) F dX6_make_45 rfl ?_
          refine z_icmp_le 54 F dX6_make_48 (by decide) (fun c9 => ?_) (fun c9 => ?_)
          · have h := h.1 c9
            refine z_iload F dX6_make_54 5 rfl ?_
            refine z_if_ne 64 F dX6_make_56 (by decide) (fun c9 => ?_) (fun c9 => ?_)
            · have h := h.1 c9
              refine z_aload_n F dX6_make_64 rfl 1 rfl ?_
              refine z_iload_n F dX6_make_65 rfl 2 rfl ?_
              refine z_iload_n F dX6_make_66 rfl 3 rfl ?_
              refine z_iload F dX6_make_67 0 rfl ?_
              refine z_callVi (fun u9 => wCE_gc G a u9.1 u9.2) F (mX6_seenWith G a vg_6 vc_7 p1 p2 r_5 _ h) gX6_make_X6_seenWith rfl hdX6_seenWith ⟨rfl, rfl, Nat.le_of_ble_eq_true rfl, Nat.le_of_ble_eq_true rfl, Nat.le_of_ble_eq_true rfl, Nat.le_of_ble_eq_true rfl⟩ 0 rfl rfl [0, 1, 2, 3, 4, 5, 6, 7, 8, 9, 10] [] [0, 1, 2, 3, 4, 5, 6, 7, 8, 9, 10] rfl rfl (by decide) (fun _ => rfl) rfl (Nat.le_of_ble_eq_true rfl) dX6_make_69 (fun r_8 u9 h => ?_)
              obtain ⟨vg_9, vc_10⟩ := u9
              refine z_w (w' := wCE_gc G a vg_9 vc_10) rfl ?_
              exact hret r_8 (vg_9, vc_10) _ _ h dX6_make_72
            · have h := h.2 c9
              refine z_iload F dX6_make_59 0 rfl ?_
              refine z_goto 72 F dX6_make_61 (by decide) ?_
              exact hret r_5 (vg_6, vc_7) _ _ h dX6_make_72
          · have h := h.2 c9
            refine z_bipush (v := -6) F dX6_make_51 rfl ?_
            exact hret (-6 : Int32) (vg_6, vc_7) _ _ h dX6_make_53
        · have h := h.2 c9
          refine z_bipush (v := -2) F dX6_make_31 rfl ?_
          exact hret (-2 : Int32) (vg, vc) _ _ h dX6_make_33
abbrev rmX6_wishDifference : Room := { frames := 4, cells := 0, slots := 0, locals := 93 }
set_option maxRecDepth 100000 in
set_option maxHeartbeats 4000000 in
theorem mX6_wishDifference (G : ZG) (a : Nat → Nat) (vg : Gr) (vc : Co) (p1 : Int32) (p2 : Int32) (p3 : Int32) (Q : Int32 → Gr → Co → Prop) (h : wpX6_wishDifference vg vc p1 p2 p3 Q) : ZMi G yX6_wishDifference wsX6_wishDifference rmX6_wishDifference [.ref (a 0), .int p1, .int p2, .int p3] (wCE_gc G a vg vc) (fun u9 : Gr × Co => wCE_gc G a u9.1 u9.2) (fun r u9 => Q r u9.1 u9.2) := by
  refine z_ofi (cc := cX6_wishDifference) (N := 7) (lv := [(0, .ref (a 0)), (1, .int p1), (2, .int p2), (3, .int p3)]) (by decide) rfl (Nat.le_of_ble_eq_true rfl) rfl (fun E F hret => ?_)
  have F : ZF E 7 cX6_wishDifference RX6 wsX6_wishDifference rmX6_wishDifference G := F
  have f0 : ZW E (.fieldLink RX6 12 "ColourEcho" "gorge" "LColourEcho$Gorge;") := F.at 1 rfl
  have f1 : ZW E (.constant RX6 270 (1000000)) := F.at 2 rfl
  have f2 : ZW E (.methodLink RX6 271 Lib.Math.abs.name) := F.at 3 rfl
  have f3 : ZW E (.static Lib.Math.abs.name) := F.at 4 rfl
  have f4 : ZW E (.initialized "java/lang/Math") := F.at 5 rfl
  have f5 : ZW E (.code Lib.Math.abs.name Lib.Math.abs.code 1 (some .int)) := F.at 6 rfl
  have iX6 : ∀ x ∈ u_ws RX6 TX6 11, x ∈ wsX6_wishDifference := fun _ h => List.mem_cons_of_mem _ (List.mem_append_left _ (List.mem_append_left _ (List.mem_append_right _ h)))
  unfold wpX6_wishDifference at h
  refine z_aload_n F dX6_wishDifference_0 rfl 0 rfl ?_
  refine z_iconst (v := 0) F dX6_wishDifference_1 rfl ?_
  refine z_iload_n F dX6_wishDifference_2 rfl 2 rfl ?_
  refine z_aload_n F dX6_wishDifference_3 rfl 0 rfl ?_
  refine z_get (ci := 6) F iX6 0 rfl rfl 0 (by decide) f0 rfl rfl dX6_wishDifference_4 ?_
  refine z_iload_n F dX6_wishDifference_7 rfl 1 rfl ?_
  refine z_iconst (v := 0) F dX6_wishDifference_8 rfl ?_
  refine z_callVi (fun u9 => wCE_gc G a u9 vc) F (mX3_worthOfSet G (fun k => a (1 + k)) vg p1 (0 : Int32) _ h) gX6_wishDifference_X3_worthOfSet rfl hdX3_worthOfSet ⟨rfl, rfl, Nat.le_of_ble_eq_true rfl, Nat.le_of_ble_eq_true rfl, Nat.le_of_ble_eq_true rfl, Nat.le_of_ble_eq_true rfl⟩ 1 rfl rfl [1, 2, 3, 4, 5, 6, 7, 8] [0, 9, 10] [0, 3, 4, 5, 6, 7, 8, 9, 10, 1, 2] rfl rfl (by decide) (fun _ => rfl) rfl (Nat.le_of_ble_eq_true rfl) dX6_wishDifference_9 (fun r_1 vg_2 h => ?_)
  refine z_callVi (fun u9 => wCE_gc G a u9.1 u9.2) F (mX6_seenWith G a vg_2 vc (0 : Int32) p2 r_1 _ h) gX6_wishDifference_X6_seenWith rfl hdX6_seenWith ⟨rfl, rfl, Nat.le_of_ble_eq_true rfl, Nat.le_of_ble_eq_true rfl, Nat.le_of_ble_eq_true rfl, Nat.le_of_ble_eq_true rfl⟩ 0 rfl rfl [0, 1, 2, 3, 4, 5, 6, 7, 8, 9, 10] [] [0, 1, 2, 3, 4, 5, 6, 7, 8, 9, 10] rfl rfl (by decide) (fun _ => rfl) rfl (Nat.le_of_ble_eq_true rfl) dX6_wishDifference_12 (fun r_3 u9 h => ?_)
  obtain ⟨vg_4, vc_5⟩ := u9
  refine z_w (w' := wCE_gc G a vg_4 vc_5) rfl ?_
  refine z_istore [(4, .int r_3), (0, .ref (a 0)), (1, .int p1), (2, .int p2), (3, .int p3)] F dX6_wishDifference_15 (by decide) rfl ?_
  refine z_aload_n F dX6_wishDifference_17 rfl 1 rfl ?_
  refine z_iconst (v := 1) F dX6_wishDifference_18 rfl ?_
  refine z_iload_n F dX6_wishDifference_19 rfl 3 rfl ?_
  refine z_aload_n F dX6_wishDifference_20 rfl 1 rfl ?_
  refine z_get (ci := 6) F iX6 0 rfl rfl 0 (by decide) f0 rfl rfl dX6_wishDifference_21 ?_
  refine z_iload_n F dX6_wishDifference_24 rfl 2 rfl ?_
  refine z_iconst (v := 1) F dX6_wishDifference_25 rfl ?_
  refine z_callVi (fun u9 => wCE_gc G a u9 vc_5) F (mX3_worthOfSet G (fun k => a (1 + k)) vg_4 p1 (1 : Int32) _ h) gX6_wishDifference_X3_worthOfSet rfl hdX3_worthOfSet ⟨rfl, rfl, Nat.le_of_ble_eq_true rfl, Nat.le_of_ble_eq_true rfl, Nat.le_of_ble_eq_true rfl, Nat.le_of_ble_eq_true rfl⟩ 1 rfl rfl [1, 2, 3, 4, 5, 6, 7, 8] [0, 9, 10] [0, 3, 4, 5, 6, 7, 8, 9, 10, 1, 2] rfl rfl (by decide) (fun _ => rfl) rfl (Nat.le_of_ble_eq_true rfl) dX6_wishDifference_26 (fun r_6 vg_7 h => ?_)
  refine z_callVi (fun u9 => wCE_gc G a u9.1 u9.2) F (mX6_seenWith G a vg_7 vc_5 (1 : Int32) p2 r_6 _ h) gX6_wishDifference_X6_seenWith rfl hdX6_seenWith ⟨rfl, rfl, Nat.le_of_ble_eq_true rfl, Nat.le_of_ble_eq_true rfl, Nat.le_of_ble_eq_true rfl, Nat.le_of_ble_eq_true rfl⟩ 0 rfl rfl [0, 1, 2, 3, 4, 5, 6, 7, 8, 9, 10] [] [0, 1, 2, 3, 4, 5, 6, 7, 8, 9, 10] rfl rfl (by decide) (fun _ => rfl) rfl (Nat.le_of_ble_eq_true rfl) dX6_wishDifference_29 (fun r_8 u9 h => ?_)
  obtain ⟨vg_9, vc_10⟩ := u9
  refine z_w (w' := wCE_gc G a vg_9 vc_10) rfl ?_
  refine z_istore [(5, .int r_8), (4, .int r_3), (0, .ref (a 0)), (1, .int p1), (2, .int p2), (3, .int p3)] F dX6_wishDifference_32 (by decide) rfl ?_
  refine z_aload_n F dX6_wishDifference_34 rfl 2 rfl ?_
  refine z_iconst (v := 2) F dX6_wishDifference_35 rfl ?_
  refine z_iload_n F dX6_wishDifference_36 rfl 4 rfl ?_
  refine z_aload_n F dX6_wishDifference_37 rfl 2 rfl ?_
  refine z_get (ci := 6) F iX6 0 rfl rfl 0 (by decide) f0 rfl rfl dX6_wishDifference_38 ?_
  refine z_iload_n F dX6_wishDifference_41 rfl 3 rfl ?_
  refine z_iconst (v := 2) F dX6_wishDifference_42 rfl ?_
  refine z_callVi (fun u9 => wCE_gc G a u9 vc_10) F (mX3_worthOfSet G (fun k => a (1 + k)) vg_9 p1 (2 : Int32) _ h) gX6_wishDifference_X3_worthOfSet rfl hdX3_worthOfSet ⟨rfl, rfl, Nat.le_of_ble_eq_true rfl, Nat.le_of_ble_eq_true rfl, Nat.le_of_ble_eq_true rfl, Nat.le_of_ble_eq_true rfl⟩ 1 rfl rfl [1, 2, 3, 4, 5, 6, 7, 8] [0, 9, 10] [0, 3, 4, 5, 6, 7, 8, 9, 10, 1, 2] rfl rfl (by decide) (fun _ => rfl) rfl (Nat.le_of_ble_eq_true rfl) dX6_wishDifference_43 (fun r_11 vg_12 h => ?_)
  refine z_callVi (fun u9 => wCE_gc G a u9.1 u9.2) F (mX6_seenWith G a vg_12 vc_10 (2 : Int32) p2 r_11 _ h) gX6_wishDifference_X6_seenWith rfl hdX6_seenWith ⟨rfl, rfl, Nat.le_of_ble_eq_true rfl, Nat.le_of_ble_eq_true rfl, Nat.le_of_ble_eq_true rfl, Nat.le_of_ble_eq_true rfl⟩ 0 rfl rfl [0, 1, 2, 3, 4, 5, 6, 7, 8, 9, 10] [] [0, 1, 2, 3, 4, 5, 6, 7, 8, 9, 10] rfl rfl (by decide) (fun _ => rfl) rfl (Nat.le_of_ble_eq_true rfl) dX6_wishDifference_46 (fun r_13 u9 h => ?_)
  obtain ⟨vg_14, vc_15⟩ := u9
  refine z_w (w' := wCE_gc G a vg_14 vc_15) rfl ?_
  refine z_istore [(6, .int r_13), (5, .int r_8), (4, .int r_3), (0, .ref (a 0)), (1, .int p1), (2, .int p2), (3, .int p3)] F dX6_wishDifference_49 (by decide) rfl ?_
  refine z_iload F dX6_wishDifference_51 2 rfl ?_
  refine z_iload_n F dX6_wishDifference_53 rfl 6 rfl ?_
  refine z_ldcw (v := 1000000) F dX6_wishDifference_54 f1 ?_
  refine z_idiv F dX6_wishDifference_57 (by decide) ?_
  refine z_isub F dX6_wishDifference_58 ?_
  refine z_abs F f2 f3 f4 f5 ⟨Nat.le_of_ble_eq_true rfl, Nat.le_of_ble_eq_true rfl, Nat.le_of_ble_eq_true rfl, Nat.le_of_ble_eq_true rfl⟩ dX6_wishDifference_59 ?_
  refine z_iload F dX6_wishDifference_62 1 rfl ?_
  refine z_iload_n F dX6_wishDifference_64 rfl 6 rfl ?_
  refine z_sipush (v := 1000) F dX6_wishDifference_65 rfl ?_
  refine z_idiv F dX6_wishDifference_68 (by decide) ?_
  refine z_sipush (v := 1000) F dX6_wishDifference_69 rfl ?_
  refine z_irem F dX6_wishDifference_72 (by decide) ?_
  refine z_isub F dX6_wishDifference_73 ?_
  refine z_abs F f2 f3 f4 f5 ⟨Nat.le_of_ble_eq_true rfl, Nat.le_of_ble_eq_true rfl, Nat.le_of_ble_eq_true rfl, Nat.le_of_ble_eq_true rfl⟩ dX6_wishDifference_74 ?_
  refine z_iadd F dX6_wishDifference_77 ?_
  refine z_iload F dX6_wishDifference_78 0 rfl ?_
  refine z_iload_n F dX6_wishDifference_80 rfl 6 rfl ?_
  refine z_sipush (v := 1000) F dX6_wishDifference_81 rfl ?_
  refine z_irem F dX6_wishDifference_84 (by decide) ?_
  refine z_isub F dX6_wishDifference_85 ?_
  refine z_abs F f2 f3 f4 f5 ⟨Nat.le_of_ble_eq_true rfl, Nat.le_of_ble_eq_true rfl, Nat.le_of_ble_eq_true rfl, Nat.le_of_ble_eq_true rfl⟩ dX6_wishDifference_86 ?_
  refine z_iadd F dX6_wishDifference_89 ?_
  exact hret (((if 0 ≤ (r_3 - (p3 / (1000000 : Int32))) then (r_3 - (p3 / (1000000 : Int32))) else 0 - (r_3 - (p3 / (1000000 : Int32)))) + (if 0 ≤ (r_8 - ((p3 / (1000 : Int32)) - (p3 / (1000 : Int32)) / (1000 : Int32) * (1000 : Int32))) then (r_8 - ((p3 / (1000 : Int32)) - (p3 / (1000 : Int32)) / (1000 : Int32) * (1000 : Int32))) else 0 - (r_8 - ((p3 / (1000 : Int32)) - (p3 / (1000 : Int32)) / (1000 : Int32) * (1000 : Int32))))) + (if 0 ≤ (r_13 - (p3 - p3 / (1000 : Int32) * (1000 : Int32))) then (r_13 - (p3 - p3 / (1000 : Int32) * (1000 : Int32))) else 0 - (r_13 - (p3 - p3 / (1000 : Int32) * (1000 : Int32))))) (vg_14, vc_15) _ _ h dX6_wishDifference_90
abbrev rmX6_wish : Room := { frames := 5, cells := 0, slots := 0, locals := 119 }
set_option maxRecDepth 100000 in
set_option maxHeartbeats 4000000 in
theorem mX6_wish (G : ZG) (a : Nat → Nat) (vg : Gr) (vc : Co) (p1 : Int32) (p2 : Int32) (p3 : Int32) (p4 : Int32) (Q : Int32 → Gr → Co → Prop) (h : wpX6_wish vg vc p1 p2 p3 p4 Q) : ZMi G yX6_wish wsX6_wish rmX6_wish [.ref (a 0), .int p1, .int p2, .int p3, .int p4] (wCE_gc G a vg vc) (fun u9 : Gr × Co => wCE_gc G a u9.1 u9.2) (fun r u9 => Q r u9.1 u9.2) := by
  refine z_ofi (cc := cX6_wish) (N := 9) (lv := [(0, .ref (a 0)), (1, .int p1), (2, .int p2), (3, .int p3), (4, .int p4)]) (by decide) rfl (Nat.le_of_ble_eq_true rfl) rfl (fun E F hret => ?_)
  have F : ZF E 9 cX6_wish RX6 wsX6_wish rmX6_wish G := F
  have f0 : ZW E (.constant RX6 170 (999999999)) := F.at 1 rfl
  have t94 : ∀ (K54 : Gr → Co → Int32 → Int32 → Int32 → Int32 → Int32 → Int32 → Int32 → Prop) (ih54 : ∀ (vg : Gr) (vc : Co) (x1 : Int32) (x2 : Int32) (x3 : Int32) (x4 : Int32) (x5 : Int32) (x6 : Int32) (x7 : Int32), K54 vg vc x1 x2 x3 x4 x5 x6 x7 → Z E 9 0 0 (wCE_gc G a vg vc) [(0, .ref (a 0)), (1, .int x1), (2, .int x2), (3, .int x3), (4, .int x4), (5, .int x5), (6, .int x6), (7, .int x7)] 54 []) (vg : Gr) (vc : Co) (x1 : Int32) (x2 : Int32) (x3 : Int32) (x4 : Int32) (x5 : Int32) (x6 : Int32) (x7 : Int32), wpX6_wish_B94 Q K54 vg vc x1 x2 x3 x4 x5 x6 x7 → Z E 9 0 0 (wCE_gc G a vg vc) [(0, .ref (a 0)), (1, .int x1), (2, .int x2), (3, .int x3), (4, .int x4), (5, .int x5), (6, .int x6), (7, .int x7)] 94 [] := by
    intro K54 ih54 vg vc x1 x2 x3 x4 x5 x6 x7 h
    unfold wpX6_wish_B94 at h
    obtain ⟨x7_11, e9⟩ : ∃ z : Int32, z = x7 + 1 := ⟨_, rfl⟩
    have h := h x7_11 e9
    refine z_iinc (v := x7_11) [(7, .int x7_11), (0, .ref (a 0)), (1, .int x1), (2, .int x2), (3, .int x3), (4, .int x4), (5, .int x5), (6, .int x6)] F dX6_wish_94 7 rfl (by rw [e9]; rfl) (by decide) rfl ?_
    refine z_goto 54 F dX6_wish_97 (by decide) ?_
    exact z_lv [1, 2, 3, 4, 5, 6, 7, 0] rfl (ih54 vg vc x1 x2 x3 x4 x5 x6 x7_11 h)
  have t54 : ∀ (n : Nat) (vg : Gr) (vc : Co) (x1 : Int32) (x2 : Int32) (x3 : Int32) (x4 : Int32) (x5 : Int32) (x6 : Int32) (x7 : Int32), wpX6_wish_L54 Q n vg vc x1 x2 x3 x4 x5 x6 x7 → Z E 9 0 0 (wCE_gc G a vg vc) [(0, .ref (a 0)), (1, .int x1), (2, .int x2), (3, .int x3), (4, .int x4), (5, .int x5), (6, .int x6), (7, .int x7)] 54 [] := by
    intro n
    induction n with
    | zero => intro vg vc x1 x2 x3 x4 x5 x6 x7 h; exact h.elim
    | succ n ihQ =>
      have ih54 : ∀ (vg : Gr) (vc : Co) (x1 : Int32) (x2 : Int32) (x3 : Int32) (x4 : Int32) (x5 : Int32) (x6 : Int32) (x7 : Int32), wpX6_wish_L54 Q n vg vc x1 x2 x3 x4 x5 x6 x7 → Z E 9 0 0 (wCE_gc G a vg vc) [(0, .ref (a 0)), (1, .int x1), (2, .int x2), (3, .int x3), (4, .int x4), (5, .int x5), (6, .int x6), (7, .int x7)] 54 [] := ihQ
      intro vg vc x1 x2 x3 x4 x5 x6 x7 h
      have h : wpX6_wish_H54 Q (wpX6_wish_L54 Q n) vg vc x1 x2 x3 x4 x5 x6 x7 := h
      generalize wpX6_wish_L54 Q n = K54 at h ih54
      clear ihQ
      unfold wpX6_wish_H54 at h
      refine z_iload F dX6_wish_54 7 rfl ?_
      refine z_iload_n F dX6_wish_56 rfl 1 rfl ?_
      refine z_icmp_gt 100 F dX6_wish_57 (by decide) (fun c9 => ?_) (fun c9 => ?_)
      · have h := h.1 c9
        refine z_iload F dX6_wish_100 4 rfl ?_
        refine z_if_ne 110 F dX6_wish_102 (by decide) (fun c9 => ?_) (fun c9 => ?_)
        · have h := h.1 c9
          refine z_iload F dX6_wish_110 5 rfl ?_
          exact hret x5 (vg, vc) _ _ h dX6_wish_112
        · have h := h.2 c9
          refine z_iload F dX6_wish_105 6 rfl ?_
          refine z_goto 112 F dX6_wish_107 (by decide) ?_
          exact hret x6 (vg, vc) _ _ h dX6_wish_112
      · have h := h.2 c9
        refine z_iload F dX6_wish_60 7 rfl ?_
        refine z_iload_n F dX6_wish_62 rfl 1 rfl ?_
        refine z_iconst (v := -1) F dX6_wish_63 rfl ?_
        refine z_ixor F dX6_wish_64 ?_
        refine z_iand F dX6_wish_65 ?_
        refine z_if_ne 94 F dX6_wish_66 (by decide) (fun c9 => ?_) (fun c9 => ?_)
        · have h := h.1 c9
          exact z_lv [0, 1, 2, 3, 4, 5, 6, 7] rfl (t94 K54 ih54 vg vc x1 x2 x3 x4 x5 x6 x7 h)
        · have h := h.2 c9
          refine z_aload_n F dX6_wish_69 rfl 0 rfl ?_
          refine z_iload F dX6_wish_70 7 rfl ?_
          refine z_iload_n F dX6_wish_72 rfl 2 rfl ?_
          refine z_iload_n F dX6_wish_73 rfl 3 rfl ?_
          refine z_callVi (fun u9 => wCE_gc G a u9.1 u9.2) F (mX6_wishDifference G a vg vc x7 x2 x3 _ h) gX6_wish_X6_wishDifference rfl hdX6_wishDifference ⟨rfl, rfl, Nat.le_of_ble_eq_true rfl, Nat.le_of_ble_eq_true rfl, Nat.le_of_ble_eq_true rfl, Nat.le_of_ble_eq_true rfl⟩ 0 rfl rfl [0, 1, 2, 3, 4, 5, 6, 7, 8, 9, 10] [] [0, 1, 2, 3, 4, 5, 6, 7, 8, 9, 10] rfl rfl (by decide) (fun _ => rfl) rfl (Nat.le_of_ble_eq_true rfl) dX6_wish_74 (fun r_8 u9 h => ?_)
          obtain ⟨vg_9, vc_10⟩ := u9
          refine z_w (w' := wCE_gc G a vg_9 vc_10) rfl ?_
          refine z_istore [(8, .int r_8), (0, .ref (a 0)), (1, .int x1), (2, .int x2), (3, .int x3), (4, .int x4), (5, .int x5), (6, .int x6), (7, .int x7)] F dX6_wish_77 (by decide) rfl ?_
          refine z_iload F dX6_wish_79 0 rfl ?_
          refine z_iload F dX6_wish_81 7 rfl ?_
          refine z_icmp_ge 94 F dX6_wish_83 (by decide) (fun c9 => ?_) (fun c9 => ?_)
          · have h := h.1 c9
            exact z_lv [1, 2, 3, 4, 5, 6, 7, 8] rfl (t94 K54 ih54 vg_9 vc_10 x1 x2 x3 x4 x5 x6 x7 h)
          · have h := h.2 c9
            refine z_iload F dX6_wish_86 0 rfl ?_
            refine z_istore [(6, .int r_8), (8, .int r_8), (0, .ref (a 0)), (1, .int x1), (2, .int x2), (3, .int x3), (4, .int x4), (5, .int x5), (7, .int x7)] F dX6_wish_88 (by decide) rfl ?_
            refine z_iload F dX6_wish_90 8 rfl ?_
            refine z_istore [(5, .int x7), (6, .int r_8), (8, .int r_8), (0, .ref (a 0)), (1, .int x1), (2, .int x2), (3, .int x3), (4, .int x4), (7, .int x7)] F dX6_wish_92 (by decide) rfl ?_
            exact z_lv [3, 4, 5, 6, 7, 0, 1, 8] rfl (t94 K54 ih54 vg_9 vc_10 x1 x2 x3 x4 x7 r_8 x7 h)
  unfold wpX6_wish at h
  refine z_iload_n F dX6_wish_0 rfl 1 rfl ?_
  refine z_callSi (fun _ => wCE_gc G a vg vc) F (mX6_isSet G p1 _ h) gX6_wish_X6_isSet rfl hdX6_isSet ⟨rfl, rfl, Nat.le_of_ble_eq_true rfl, Nat.le_of_ble_eq_true rfl, Nat.le_of_ble_eq_true rfl, Nat.le_of_ble_eq_true rfl⟩ [] [0, 1, 2, 3, 4, 5, 6, 7, 8, 9, 10] [0, 1, 2, 3, 4, 5, 6, 7, 8, 9, 10] rfl rfl (by decide) (fun _ => rfl) rfl (Nat.le_of_ble_eq_true rfl) dX6_wish_1 (fun r_1 u9 h => ?_)
  refine z_if_ne 9 F dX6_wish_4 (by decide) (fun c9 => ?_) (fun c9 => ?_)
  · have h := h.1 c9
    refine z_iload_n F dX6_wish_9 rfl 2 rfl ?_
    refine z_callSi (fun _ => wCE_gc G a vg vc) F (mX6_isAhead G p2 _ h) gX6_wish_X6_isAhead rfl hdX6_isAhead ⟨rfl, rfl, Nat.le_of_ble_eq_true rfl, Nat.le_of_ble_eq_true rfl, Nat.le_of_ble_eq_true rfl, Nat.le_of_ble_eq_true rfl⟩ [] [0, 1, 2, 3, 4, 5, 6, 7, 8, 9, 10] [0, 1, 2, 3, 4, 5, 6, 7, 8, 9, 10] rfl rfl (by decide) (fun _ => rfl) rfl (Nat.le_of_ble_eq_true rfl) dX6_wish_10 (fun r_2 u9 h => ?_)
    refine z_if_eq 36 F dX6_wish_13 (by decide) (fun c9 => ?_) (fun c9 => ?_)
    · have h := h.1 c9
      refine z_bipush (v := -2) F dX6_wish_36 rfl ?_
      exact hret (-2 : Int32) (vg, vc) _ _ h dX6_wish_38
    · have h := h.2 c9
      refine z_iload_n F dX6_wish_16 rfl 3 rfl ?_
      refine z_iconst (v := 0) F dX6_wish_17 rfl ?_
      refine z_ldc (v := 999999999) F dX6_wish_18 f0 ?_
      refine z_callSi (fun _ => wCE_gc G a vg vc) F (mX6_isWithin G p3 (0 : Int32) (999999999 : Int32) _ h) gX6_wish_X6_isWithin rfl hdX6_isWithin ⟨rfl, rfl, Nat.le_of_ble_eq_true rfl, Nat.le_of_ble_eq_true rfl, Nat.le_of_ble_eq_true rfl, Nat.le_of_ble_eq_true rfl⟩ [] [0, 1, 2, 3, 4, 5, 6, 7, 8, 9, 10] [0, 1, 2, 3, 4, 5, 6, 7, 8, 9, 10] rfl rfl (by decide) (fun _ => rfl) rfl (Nat.le_of_ble_eq_true rfl) dX6_wish_20 (fun r_3 u9 h => ?_)
      refine z_if_eq 36 F dX6_wish_23 (by decide) (fun c9 => ?_) (fun c9 => ?_)
      · have h := h.1 c9
        refine z_bipush (v := -2) F dX6_wish_36 rfl ?_
        exact hret (-2 : Int32) (vg, vc) _ _ h dX6_wish_38
      · have h := h.2 c9
        refine z_iload F dX6_wish_26 4 rfl ?_
        refine z_iconst (v := 0) F dX6_wish_28 rfl ?_
        refine z_iconst (v := 1) F dX6_wish_29 rfl ?_
        refine z_callSi (fun _ => wCE_gc G a vg vc) F (mX6_isWithin G p4 (0 : Int32) (1 : Int32) _ h) gX6_wish_X6_isWithin rfl hdX6_isWithin ⟨rfl, rfl, Nat.le_of_ble_eq_true rfl, Nat.le_of_ble_eq_true rfl, Nat.le_of_ble_eq_true rfl, Nat.le_of_ble_eq_true rfl⟩ [] [0, 1, 2, 3, 4, 5, 6, 7, 8, 9, 10] [0, 1, 2, 3, 4, 5, 6, 7, 8, 9, 10] rfl rfl (by decide) (fun _ => rfl) rfl (Nat.le_of_ble_eq_true rfl) dX6_wish_30 (fun r_4 u9 h => ?_)
        refine z_if_ne 39 F dX6_wish_33 (by decide) (fun c9 => ?_) (fun c9 => ?_)
        · have h := h.1 c9
          refine z_iconst (v := 0) F dX6_wish_39 rfl ?_
          refine z_istore [(5, .int (0 : Int32)), (0, .ref (a 0)), (1, .int p1), (2, .int p2), (3, .int p3), (4, .int p4)] F dX6_wish_40 (by decide) rfl ?_
          refine z_aload_n F dX6_wish_42 rfl 1 rfl ?_
          refine z_iconst (v := 0) F dX6_wish_43 rfl ?_
          refine z_iload_n F dX6_wish_44 rfl 3 rfl ?_
          refine z_iload_n F dX6_wish_45 rfl 4 rfl ?_
          refine z_callVi (fun u9 => wCE_gc G a u9.1 u9.2) F (mX6_wishDifference G a vg vc (0 : Int32) p2 p3 _ h) gX6_wish_X6_wishDifference rfl hdX6_wishDifference ⟨rfl, rfl, Nat.le_of_ble_eq_true rfl, Nat.le_of_ble_eq_true rfl, Nat.le_of_ble_eq_true rfl, Nat.le_of_ble_eq_true rfl⟩ 0 rfl rfl [0, 1, 2, 3, 4, 5, 6, 7, 8, 9, 10] [] [0, 1, 2, 3, 4, 5, 6, 7, 8, 9, 10] rfl rfl (by decide) (fun _ => rfl) rfl (Nat.le_of_ble_eq_true rfl) dX6_wish_46 (fun r_5 u9 h => ?_)
          obtain ⟨vg_6, vc_7⟩ := u9
          refine z_w (w' := wCE_gc G a vg_6 vc_7) rfl ?_
          refine z_istore [(6, .int r_5), (5, .int (0 : Int32)), (0, .ref (a 0)), (1, .int p1), (2, .int p2), (3, .int p3), (4, .int p4)] F dX6_wish_49 (by decide) rfl ?_
          refine z_iconst (v := 1) F dX6_wish_51 rfl ?_
          refine z_istore [(7, .int (1 : Int32)), (6, .int r_5), (5, .int (0 : Int32)), (0, .ref (a 0)), (1, .int p1), (2, .int p2), (3, .int p3), (4, .int p4)] F dX6_wish_52 (by decide) rfl ?_
          obtain ⟨n9, h⟩ := h
          exact z_lv [3, 4, 5, 6, 7, 2, 1, 0] rfl (t54 n9 vg_6 vc_7 p1 p2 p3 p4 (0 : Int32) r_5 (1 : Int32) h)
        · have h := h.2 c9
          refine z_bipush (v := -2) F dX6_wish_36 rfl ?_
          exact hret (-2 : Int32) (vg, vc) _ _ h dX6_wish_38
  · have h := h.2 c9
    refine z_iconst (v := -1) F dX6_wish_7 rfl ?_
    exact hret (-1 : Int32) (vg, vc) _ _ h dX6_wish_8
abbrev rmX6_fadesWithout : Room := { frames := 4, cells := 0, slots := 0, locals := 86 }
set_option maxRecDepth 100000 in
set_option maxHeartbeats 4000000 in
theorem mX6_fadesWithout (G : ZG) (a : Nat → Nat) (vg : Gr) (vs : Gr) (vc : Co) (p1 : Int32) (p2 : Int32) (p3 : Int32) (Q : Int32 → Gr → Gr → Co → Prop) (h : wpX6_fadesWithout vg vs vc p1 p2 p3 Q) : ZMi G yX6_fadesWithout wsX6_fadesWithout rmX6_fadesWithout [.ref (a 0), .int p1, .int p2, .int p3] (wCE_gsc G a vg vs vc) (fun u9 : Gr × Gr × Co => wCE_gsc G a u9.1 u9.2.1 u9.2.2) (fun r u9 => Q r u9.1 u9.2.1 u9.2.2) := by
  refine z_ofz (cc := cX6_fadesWithout) (N := 5) (lv := [(0, .ref (a 0)), (1, .int p1), (2, .int p2), (3, .int p3)]) (by decide) rfl (Nat.le_of_ble_eq_true rfl) rfl (fun E F hret => ?_)
  have F : ZF E 5 cX6_fadesWithout RX6 wsX6_fadesWithout rmX6_fadesWithout G := F
  have f0 : ZW E (.fieldLink RX6 16 "ColourEcho" "scratch" "LColourEcho$Gorge;") := F.at 1 rfl
  have f1 : ZW E (.fieldLink RX6 12 "ColourEcho" "gorge" "LColourEcho$Gorge;") := F.at 2 rfl
  have f2 : ZW E (.fieldLink RX6 76 "ColourEcho$Gorge" "keeps" "[I") := F.at 3 rfl
  have f3 : ZW E (.fieldLink RX6 36 "ColourEcho" "course" "LColourEcho$Course;") := F.at 4 rfl
  have iX3 : ∀ x ∈ u_ws RX3 TX3 13, x ∈ wsX6_fadesWithout := fun _ h => List.mem_cons_of_mem _ (List.mem_append_left _ (List.mem_append_right _ h))
  have iX6 : ∀ x ∈ u_ws RX6 TX6 11, x ∈ wsX6_fadesWithout := fun _ h => List.mem_cons_of_mem _ (List.mem_append_left _ (List.mem_append_left _ (List.mem_append_right _ h)))
  have t40 : ∀ (K14 : Gr → Gr → Co → Int32 → Int32 → Int32 → Int32 → Prop) (ih14 : ∀ (vg : Gr) (vs : Gr) (vc : Co) (x1 : Int32) (x2 : Int32) (x3 : Int32) (x4 : Int32), K14 vg vs vc x1 x2 x3 x4 → Z E 5 0 0 (wCE_gsc G a vg vs vc) [(0, .ref (a 0)), (1, .int x1), (2, .int x2), (3, .int x3), (4, .int x4)] 14 []) (vg : Gr) (vs : Gr) (vc : Co) (x1 : Int32) (x2 : Int32) (x3 : Int32) (x4 : Int32), wpX6_fadesWithout_B40 Q K14 vg vs vc x1 x2 x3 x4 → Z E 5 0 0 (wCE_gsc G a vg vs vc) [(0, .ref (a 0)), (1, .int x1), (2, .int x2), (3, .int x3), (4, .int x4)] 40 [] := by
    intro K14 ih14 vg vs vc x1 x2 x3 x4 h
    unfold wpX6_fadesWithout_B40 at h
    obtain ⟨x4_11, e9⟩ : ∃ z : Int32, z = x4 + 1 := ⟨_, rfl⟩
    have h := h x4_11 e9
    refine z_iinc (v := x4_11) [(4, .int x4_11), (0, .ref (a 0)), (1, .int x1), (2, .int x2), (3, .int x3)] F dX6_fadesWithout_40 4 rfl (by rw [e9]; rfl) (by decide) rfl ?_
    refine z_goto 14 F dX6_fadesWithout_43 (by decide) ?_
    exact z_lv [1, 2, 3, 4, 0] rfl (ih14 vg vs vc x1 x2 x3 x4_11 h)
  have t49 : ∀ (n : Nat) (vg : Gr) (vs : Gr) (vc : Co) (x2 : Int32) (x3 : Int32) (x4 : Int32), wpX6_fadesWithout_L49 Q n vg vs vc x2 x3 x4 → Z E 5 0 0 (wCE_gsc G a vg vs vc) [(0, .ref (a 0)), (2, .int x2), (3, .int x3), (4, .int x4)] 49 [] := by
    intro n
    induction n with
    | zero => intro vg vs vc x2 x3 x4 h; exact h.elim
    | succ n ihQ =>
      have ih49 : ∀ (vg : Gr) (vs : Gr) (vc : Co) (x2 : Int32) (x3 : Int32) (x4 : Int32), wpX6_fadesWithout_L49 Q n vg vs vc x2 x3 x4 → Z E 5 0 0 (wCE_gsc G a vg vs vc) [(0, .ref (a 0)), (2, .int x2), (3, .int x3), (4, .int x4)] 49 [] := ihQ
      intro vg vs vc x2 x3 x4 h
      have h : wpX6_fadesWithout_H49 Q (wpX6_fadesWithout_L49 Q n) vg vs vc x2 x3 x4 := h
      generalize wpX6_fadesWithout_L49 Q n = K49 at h ih49
      clear ihQ
      unfold wpX6_fadesWithout_H49 at h
      refine z_iload F dX6_fadesWithout_49 3 rfl ?_
      refine z_iconst (v := 3) F dX6_fadesWithout_51 rfl ?_
      refine z_icmp_ge 103 F dX6_fadesWithout_52 (by decide) (fun c9 => ?_) (fun c9 => ?_)
      · have h := h.1 c9
        refine z_iconst (v := 1) F dX6_fadesWithout_103 rfl ?_
        exact hret (1 : Int32) (vg, vs, vc) _ _ h dX6_fadesWithout_104 (by decide)
      · have h := h.2 c9
        refine z_aload_n F dX6_fadesWithout_55 rfl 0 rfl ?_
        refine z_get (ci := 6) F iX6 0 rfl rfl 4 (by decide) f3 rfl rfl dX6_fadesWithout_56 ?_
        refine z_aload_n F dX6_fadesWithout_59 rfl 0 rfl ?_
        refine z_get (ci := 6) F iX6 0 rfl rfl 1 (by decide) f0 rfl rfl dX6_fadesWithout_60 ?_
        refine z_iload F dX6_fadesWithout_63 3 rfl ?_
        refine z_iconst (v := 0) F dX6_fadesWithout_65 rfl ?_
        refine z_callVv (fun u9 => wCE_gsc G a vg u9.2 u9.1) F (mX0_fromNow G (fun k => a (28 + k)) (fun k => a (9 + k)) vc vs x4 (0 : Int32) _ h) gX6_fadesWithout_X0_fromNow rfl hdX0_fromNow ⟨rfl, rfl, Nat.le_of_ble_eq_true rfl, Nat.le_of_ble_eq_true rfl, Nat.le_of_ble_eq_true rfl, Nat.le_of_ble_eq_true rfl⟩ 17 rfl rfl [17, 18, 9, 10, 11, 12, 13, 14, 15, 16] [0, 1, 2, 3, 4, 5, 6, 7, 8] [0, 1, 2, 3, 4, 5, 6, 7, 8, 11, 12, 13, 14, 15, 16, 17, 18, 9, 10] rfl rfl (by decide) (fun _ => rfl) rfl (Nat.le_of_ble_eq_true rfl) dX6_fadesWithout_66 (fun u9 h => ?_)
        obtain ⟨vc_4, vs_5⟩ := u9
        refine z_w (w' := wCE_gsc G a vg vs_5 vc_4) rfl ?_
        refine z_aload_n F dX6_fadesWithout_69 rfl 0 rfl ?_
        refine z_get (ci := 6) F iX6 0 rfl rfl 4 (by decide) f3 rfl rfl dX6_fadesWithout_70 ?_
        refine z_aload_n F dX6_fadesWithout_73 rfl 0 rfl ?_
        refine z_get (ci := 6) F iX6 0 rfl rfl 1 (by decide) f0 rfl rfl dX6_fadesWithout_74 ?_
        refine z_bipush (v := 60) F dX6_fadesWithout_77 rfl ?_
        refine z_iconst (v := 0) F dX6_fadesWithout_79 rfl ?_
        refine z_callVv (fun u9 => wCE_gsc G a vg u9.2 u9.1) F (mX0_run G (fun k => a (28 + k)) (fun k => a (9 + k)) vc_4 vs_5 (60 : Int32) (0 : Int32) _ h) gX6_fadesWithout_X0_run rfl hdX0_run ⟨rfl, rfl, Nat.le_of_ble_eq_true rfl, Nat.le_of_ble_eq_true rfl, Nat.le_of_ble_eq_true rfl, Nat.le_of_ble_eq_true rfl⟩ 17 rfl rfl [17, 18, 9, 10, 11, 12, 13, 14, 15, 16] [0, 1, 2, 3, 4, 5, 6, 7, 8] [0, 1, 2, 3, 4, 5, 6, 7, 8, 11, 12, 13, 14, 15, 16, 17, 18, 9, 10] rfl rfl (by decide) (fun _ => rfl) rfl (Nat.le_of_ble_eq_true rfl) dX6_fadesWithout_80 (fun u9 h => ?_)
        obtain ⟨vc_6, vs_7⟩ := u9
        refine z_w (w' := wCE_gsc G a vg vs_7 vc_6) rfl ?_
        refine z_aload_n F dX6_fadesWithout_83 rfl 0 rfl ?_
        refine z_get (ci := 6) F iX6 0 rfl rfl 4 (by decide) f3 rfl rfl dX6_fadesWithout_84 ?_
        refine z_iload_n F dX6_fadesWithout_87 rfl 1 rfl ?_
        refine z_callVi (fun u9 => wCE_gsc G a vg vs_7 u9) F (mX0_mostFrom G (fun k => a (28 + k)) vc_6 x2 _ h) gX6_fadesWithout_X0_mostFrom rfl hdX0_mostFrom ⟨rfl, rfl, Nat.le_of_ble_eq_true rfl, Nat.le_of_ble_eq_true rfl, Nat.le_of_ble_eq_true rfl, Nat.le_of_ble_eq_true rfl⟩ 17 rfl rfl [17, 18] [0, 1, 2, 3, 4, 5, 6, 7, 8, 9, 10, 11, 12, 13, 14, 15, 16] [0, 1, 2, 3, 4, 5, 6, 7, 8, 9, 10, 11, 12, 13, 14, 15, 16, 17, 18] rfl rfl (by decide) (fun _ => rfl) rfl (Nat.le_of_ble_eq_true rfl) dX6_fadesWithout_88 (fun r_8 vc_9 h => ?_)
        refine z_iload_n F dX6_fadesWithout_91 rfl 2 rfl ?_
        refine z_icmp_le 97 F dX6_fadesWithout_92 (by decide) (fun c9 => ?_) (fun c9 => ?_)
        · have h := h.1 c9
          obtain ⟨x4_10, e9⟩ : ∃ z : Int32, z = x4 + 1 := ⟨_, rfl⟩
          have h := h x4_10 e9
          refine z_iinc (v := x4_10) [(4, .int x4_10), (0, .ref (a 0)), (2, .int x2), (3, .int x3)] F dX6_fadesWithout_97 3 rfl (by rw [e9]; rfl) (by decide) rfl ?_
          refine z_goto 49 F dX6_fadesWithout_100 (by decide) ?_
          exact z_lv [1, 2, 3, 0] rfl (ih49 vg vs_7 vc_9 x2 x3 x4_10 h)
        · have h := h.2 c9
          refine z_iconst (v := 0) F dX6_fadesWithout_95 rfl ?_
          exact hret (0 : Int32) (vg, vs_7, vc_9) _ _ h dX6_fadesWithout_96 (by decide)
  have t14 : ∀ (n : Nat) (vg : Gr) (vs : Gr) (vc : Co) (x1 : Int32) (x2 : Int32) (x3 : Int32) (x4 : Int32), wpX6_fadesWithout_L14 Q n vg vs vc x1 x2 x3 x4 → Z E 5 0 0 (wCE_gsc G a vg vs vc) [(0, .ref (a 0)), (1, .int x1), (2, .int x2), (3, .int x3), (4, .int x4)] 14 [] := by
    intro n
    induction n with
    | zero => intro vg vs vc x1 x2 x3 x4 h; exact h.elim
    | succ n ihQ =>
      have ih14 : ∀ (vg : Gr) (vs : Gr) (vc : Co) (x1 : Int32) (x2 : Int32) (x3 : Int32) (x4 : Int32), wpX6_fadesWithout_L14 Q n vg vs vc x1 x2 x3 x4 → Z E 5 0 0 (wCE_gsc G a vg vs vc) [(0, .ref (a 0)), (1, .int x1), (2, .int x2), (3, .int x3), (4, .int x4)] 14 [] := ihQ
      intro vg vs vc x1 x2 x3 x4 h
      have h : wpX6_fadesWithout_H14 Q (wpX6_fadesWithout_L14 Q n) vg vs vc x1 x2 x3 x4 := h
      generalize wpX6_fadesWithout_L14 Q n = K14 at h ih14
      clear ihQ
      unfold wpX6_fadesWithout_H14 at h
      refine z_iload F dX6_fadesWithout_14 4 rfl ?_
      refine z_iconst (v := 4) F dX6_fadesWithout_16 rfl ?_
      refine z_icmp_ge 46 F dX6_fadesWithout_17 (by decide) (fun c9 => ?_) (fun c9 => ?_)
      · have h := h.1 c9
        refine z_iconst (v := 0) F dX6_fadesWithout_46 rfl ?_
        refine z_istore [(4, .int (0 : Int32)), (0, .ref (a 0)), (1, .int x1), (2, .int x2), (3, .int x3)] F dX6_fadesWithout_47 (by decide) rfl ?_
        obtain ⟨n9, h⟩ := h
        exact z_lv [1, 3, 4, 0] rfl (t49 n9 vg vs vc x2 x3 (0 : Int32) h)
      · have h := h.2 c9
        refine z_iload_n F dX6_fadesWithout_20 rfl 1 rfl ?_
        refine z_iload F dX6_fadesWithout_21 4 rfl ?_
        refine z_callSi (fun _ => wCE_gsc G a vg vs vc) F (mX6_has G x1 x4 _ h) gX6_fadesWithout_X6_has rfl hdX6_has ⟨rfl, rfl, Nat.le_of_ble_eq_true rfl, Nat.le_of_ble_eq_true rfl, Nat.le_of_ble_eq_true rfl, Nat.le_of_ble_eq_true rfl⟩ [] [0, 1, 2, 3, 4, 5, 6, 7, 8, 9, 10, 11, 12, 13, 14, 15, 16, 17, 18] [0, 1, 2, 3, 4, 5, 6, 7, 8, 9, 10, 11, 12, 13, 14, 15, 16, 17, 18] rfl rfl (by decide) (fun _ => rfl) rfl (Nat.le_of_ble_eq_true rfl) dX6_fadesWithout_23 (fun r_3 u9 h => ?_)
        refine z_if_eq 40 F dX6_fadesWithout_26 (by decide) (fun c9 => ?_) (fun c9 => ?_)
        · have h := h.1 c9
          exact z_lv [0, 1, 2, 3, 4] rfl (t40 K14 ih14 vg vs vc x1 x2 x3 x4 h)
        · have h := h.2 c9
          refine z_aload_n F dX6_fadesWithout_29 rfl 0 rfl ?_
          refine z_get (ci := 6) F iX6 0 rfl rfl 1 (by decide) f0 rfl rfl dX6_fadesWithout_30 ?_
          refine z_get (ci := 3) F iX3 9 rfl rfl 1 (by decide) f2 rfl rfl dX6_fadesWithout_33 ?_
          refine z_iload F dX6_fadesWithout_36 4 rfl ?_
          refine z_iconst (v := 0) F dX6_fadesWithout_38 rfl ?_
          have h9 := h.1
          have h := h.2
          refine z_iast (wCE_gsc G a vg (Gr_s_keeps vs (upd (Gr_keeps vs) (x4).toNatClampNeg (0 : Int32))) vc) F 11 rfl h9 rfl dX6_fadesWithout_39 ?_
          exact z_lv [0, 1, 2, 3, 4] rfl (t40 K14 ih14 vg (Gr_s_keeps vs (upd (Gr_keeps vs) (x4).toNatClampNeg (0 : Int32))) vc x1 x2 x3 x4 h)
  unfold wpX6_fadesWithout at h
  refine z_aload_n F dX6_fadesWithout_0 rfl 0 rfl ?_
  refine z_get (ci := 6) F iX6 0 rfl rfl 1 (by decide) f0 rfl rfl dX6_fadesWithout_1 ?_
  refine z_aload_n F dX6_fadesWithout_4 rfl 0 rfl ?_
  refine z_get (ci := 6) F iX6 0 rfl rfl 0 (by decide) f1 rfl rfl dX6_fadesWithout_5 ?_
  refine z_callVv (fun u9 => wCE_gsc G a u9.2 u9.1 vc) F (mX3_become G (fun k => a (9 + k)) (fun k => a (1 + k)) vs vg _ h) gX6_fadesWithout_X3_become rfl hdX3_become ⟨rfl, rfl, Nat.le_of_ble_eq_true rfl, Nat.le_of_ble_eq_true rfl, Nat.le_of_ble_eq_true rfl, Nat.le_of_ble_eq_true rfl⟩ 9 rfl rfl [9, 10, 11, 12, 13, 14, 15, 16, 1, 2, 3, 4, 5, 6, 7, 8] [0, 17, 18] [0, 11, 12, 13, 14, 15, 16, 17, 18, 3, 4, 5, 6, 7, 8, 9, 10, 1, 2] rfl rfl (by decide) (fun _ => rfl) rfl (Nat.le_of_ble_eq_true rfl) dX6_fadesWithout_8 (fun u9 h => ?_)
  obtain ⟨vs_1, vg_2⟩ := u9
  refine z_w (w' := wCE_gsc G a vg_2 vs_1 vc) rfl ?_
  refine z_iconst (v := 0) F dX6_fadesWithout_11 rfl ?_
  refine z_istore [(4, .int (0 : Int32)), (0, .ref (a 0)), (1, .int p1), (2, .int p2), (3, .int p3)] F dX6_fadesWithout_12 (by decide) rfl ?_
  obtain ⟨n9, h⟩ := h
  exact z_lv [1, 2, 3, 4, 0] rfl (t14 n9 vg_2 vs_1 vc p1 p2 p3 (0 : Int32) h)
abbrev rmX6_whiten : Room := { frames := 5, cells := 0, slots := 0, locals := 110 }
set_option maxRecDepth 100000 in
set_option maxHeartbeats 4000000 in
theorem mX6_whiten (G : ZG) (a : Nat → Nat) (vg : Gr) (vs : Gr) (vc : Co) (p1 : Int32) (p2 : Int32) (p3 : Int32) (Q : Int32 → Gr → Gr → Co → Prop) (h : wpX6_whiten vg vs vc p1 p2 p3 Q) : ZMi G yX6_whiten wsX6_whiten rmX6_whiten [.ref (a 0), .int p1, .int p2, .int p3] (wCE_gsc G a vg vs vc) (fun u9 : Gr × Gr × Co => wCE_gsc G a u9.1 u9.2.1 u9.2.2) (fun r u9 => Q r u9.1 u9.2.1 u9.2.2) := by
  refine z_ofi (cc := cX6_whiten) (N := 8) (lv := [(0, .ref (a 0)), (1, .int p1), (2, .int p2), (3, .int p3)]) (by decide) rfl (Nat.le_of_ble_eq_true rfl) rfl (fun E F hret => ?_)
  have F : ZF E 8 cX6_whiten RX6 wsX6_whiten rmX6_whiten G := F
  have t76 : ∀ (K36 : Gr → Gr → Co → Int32 → Int32 → Int32 → Int32 → Int32 → Int32 → Prop) (ih36 : ∀ (vg : Gr) (vs : Gr) (vc : Co) (x1 : Int32) (x2 : Int32) (x3 : Int32) (x4 : Int32) (x5 : Int32) (x6 : Int32), K36 vg vs vc x1 x2 x3 x4 x5 x6 → Z E 8 0 0 (wCE_gsc G a vg vs vc) [(0, .ref (a 0)), (1, .int x1), (2, .int x2), (3, .int x3), (4, .int x4), (5, .int x5), (6, .int x6)] 36 []) (vg : Gr) (vs : Gr) (vc : Co) (x1 : Int32) (x2 : Int32) (x3 : Int32) (x4 : Int32) (x5 : Int32) (x6 : Int32), wpX6_whiten_B76 Q K36 vg vs vc x1 x2 x3 x4 x5 x6 → Z E 8 0 0 (wCE_gsc G a vg vs vc) [(0, .ref (a 0)), (1, .int x1), (2, .int x2), (3, .int x3), (4, .int x4), (5, .int x5), (6, .int x6)] 76 [] := by
    intro K36 ih36 vg vs vc x1 x2 x3 x4 x5 x6 h
    unfold wpX6_whiten_B76 at h
    obtain ⟨x6_9, e9⟩ : ∃ z : Int32, z = x6 + 1 := ⟨_, rfl⟩
    have h := h x6_9 e9
    refine z_iinc (v := x6_9) [(6, .int x6_9), (0, .ref (a 0)), (1, .int x1), (2, .int x2), (3, .int x3), (4, .int x4), (5, .int x5)] F dX6_whiten_76 6 rfl (by rw [e9]; rfl) (by decide) rfl ?_
    refine z_goto 36 F dX6_whiten_79 (by decide) ?_
    exact z_lv [1, 2, 3, 4, 5, 6, 0] rfl (ih36 vg vs vc x1 x2 x3 x4 x5 x6_9 h)
  have t36 : ∀ (n : Nat) (vg : Gr) (vs : Gr) (vc : Co) (x1 : Int32) (x2 : Int32) (x3 : Int32) (x4 : Int32) (x5 : Int32) (x6 : Int32), wpX6_whiten_L36 Q n vg vs vc x1 x2 x3 x4 x5 x6 → Z E 8 0 0 (wCE_gsc G a vg vs vc) [(0, .ref (a 0)), (1, .int x1), (2, .int x2), (3, .int x3), (4, .int x4), (5, .int x5), (6, .int x6)] 36 [] := by
    intro n
    induction n with
    | zero => intro vg vs vc x1 x2 x3 x4 x5 x6 h; exact h.elim
    | succ n ihQ =>
      have ih36 : ∀ (vg : Gr) (vs : Gr) (vc : Co) (x1 : Int32) (x2 : Int32) (x3 : Int32) (x4 : Int32) (x5 : Int32) (x6 : Int32), wpX6_whiten_L36 Q n vg vs vc x1 x2 x3 x4 x5 x6 → Z E 8 0 0 (wCE_gsc G a vg vs vc) [(0, .ref (a 0)), (1, .int x1), (2, .int x2), (3, .int x3), (4, .int x4), (5, .int x5), (6, .int x6)] 36 [] := ihQ
      intro vg vs vc x1 x2 x3 x4 x5 x6 h
      have h : wpX6_whiten_H36 Q (wpX6_whiten_L36 Q n) vg vs vc x1 x2 x3 x4 x5 x6 := h
      generalize wpX6_whiten_L36 Q n = K36 at h ih36
      clear ihQ
      unfold wpX6_whiten_H36 at h
      refine z_iload F dX6_whiten_36 6 rfl ?_
      refine z_bipush (v := 15) F dX6_whiten_38 rfl ?_
      refine z_icmp_gt 82 F dX6_whiten_40 (by decide) (fun c9 => ?_) (fun c9 => ?_)
      · have h := h.1 c9
        refine z_iload F dX6_whiten_82 4 rfl ?_
        refine z_bipush (v := -6) F dX6_whiten_84 rfl ?_
        refine z_icmp_ne 92 F dX6_whiten_86 (by decide) (fun c9 => ?_) (fun c9 => ?_)
        · have h := h.1 c9
          refine z_iload_n F dX6_whiten_92 rfl 3 rfl ?_
          refine z_if_ne 101 F dX6_whiten_93 (by decide) (fun c9 => ?_) (fun c9 => ?_)
          · have h := h.1 c9
            refine z_iload F dX6_whiten_101 4 rfl ?_
            exact hret x4 (vg, vs, vc) _ _ h dX6_whiten_103
          · have h := h.2 c9
            refine z_iload F dX6_whiten_96 5 rfl ?_
            refine z_goto 103 F dX6_whiten_98 (by decide) ?_
            exact hret x5 (vg, vs, vc) _ _ h dX6_whiten_103
        · have h := h.2 c9
          refine z_bipush (v := -6) F dX6_whiten_89 rfl ?_
          exact hret (-6 : Int32) (vg, vs, vc) _ _ h dX6_whiten_91
      · have h := h.2 c9
        refine z_iload F dX6_whiten_43 6 rfl ?_
        refine z_callSi (fun _ => wCE_gsc G a vg vs vc) F (mJ6_bitCount_0f7a4 G x6 _ h) gX6_whiten_J6_bitCount_0f7a4 rfl hdJ6_bitCount_0f7a4 ⟨rfl, rfl, Nat.le_of_ble_eq_true rfl, Nat.le_of_ble_eq_true rfl, Nat.le_of_ble_eq_true rfl, Nat.le_of_ble_eq_true rfl⟩ [] [0, 1, 2, 3, 4, 5, 6, 7, 8, 9, 10, 11, 12, 13, 14, 15, 16, 17, 18] [0, 1, 2, 3, 4, 5, 6, 7, 8, 9, 10, 11, 12, 13, 14, 15, 16, 17, 18] rfl rfl (by decide) (fun _ => rfl) rfl (Nat.le_of_ble_eq_true rfl) dX6_whiten_45 (fun r_4 u9 h => ?_)
        refine z_istore [(7, .int r_4), (0, .ref (a 0)), (1, .int x1), (2, .int x2), (3, .int x3), (4, .int x4), (5, .int x5), (6, .int x6)] F dX6_whiten_48 (by decide) rfl ?_
        refine z_iload F dX6_whiten_50 0 rfl ?_
        refine z_iload F dX6_whiten_52 6 rfl ?_
        refine z_icmp_ge 76 F dX6_whiten_54 (by decide) (fun c9 => ?_) (fun c9 => ?_)
        · have h := h.1 c9
          exact z_lv [1, 2, 3, 4, 5, 6, 7] rfl (t76 K36 ih36 vg vs vc x1 x2 x3 x4 x5 x6 h)
        · have h := h.2 c9
          refine z_aload_n F dX6_whiten_57 rfl 1 rfl ?_
          refine z_iload F dX6_whiten_58 7 rfl ?_
          refine z_iload_n F dX6_whiten_60 rfl 2 rfl ?_
          refine z_iload_n F dX6_whiten_61 rfl 3 rfl ?_
          refine z_callVi (fun u9 => wCE_gsc G a u9.1 u9.2.1 u9.2.2) F (mX6_fadesWithout G a vg vs vc x6 x1 x2 _ h) gX6_whiten_X6_fadesWithout rfl hdX6_fadesWithout ⟨rfl, rfl, Nat.le_of_ble_eq_true rfl, Nat.le_of_ble_eq_true rfl, Nat.le_of_ble_eq_true rfl, Nat.le_of_ble_eq_true rfl⟩ 0 rfl rfl [0, 1, 2, 3, 4, 5, 6, 7, 8, 9, 10, 11, 12, 13, 14, 15, 16, 17, 18] [] [0, 1, 2, 3, 4, 5, 6, 7, 8, 9, 10, 11, 12, 13, 14, 15, 16, 17, 18] rfl rfl (by decide) (fun _ => rfl) rfl (Nat.le_of_ble_eq_true rfl) dX6_whiten_62 (fun r_5 u9 h => ?_)
          obtain ⟨vg_6, vs_7, vc_8⟩ := u9
          refine z_w (w' := wCE_gsc G a vg_6 vs_7 vc_8) rfl ?_
          refine z_if_eq 76 F dX6_whiten_65 (by decide) (fun c9 => ?_) (fun c9 => ?_)
          · have h := h.1 c9
            exact z_lv [1, 2, 3, 4, 5, 6, 7] rfl (t76 K36 ih36 vg_6 vs_7 vc_8 x1 x2 x3 x4 x5 x6 h)
          · have h := h.2 c9
            refine z_iload F dX6_whiten_68 0 rfl ?_
            refine z_istore [(5, .int r_4), (7, .int r_4), (0, .ref (a 0)), (1, .int x1), (2, .int x2), (3, .int x3), (4, .int x4), (6, .int x6)] F dX6_whiten_70 (by decide) rfl ?_
            refine z_iload F dX6_whiten_72 7 rfl ?_
            refine z_istore [(4, .int x6), (5, .int r_4), (7, .int r_4), (0, .ref (a 0)), (1, .int x1), (2, .int x2), (3, .int x3), (6, .int x6)] F dX6_whiten_74 (by decide) rfl ?_
            exact z_lv [3, 4, 5, 6, 0, 1, 7] rfl (t76 K36 ih36 vg_6 vs_7 vc_8 x1 x2 x3 x6 r_4 x6 h)
  unfold wpX6_whiten at h
  refine z_iload_n F dX6_whiten_0 rfl 1 rfl ?_
  refine z_callSi (fun _ => wCE_gsc G a vg vs vc) F (mX6_isAhead G p1 _ h) gX6_whiten_X6_isAhead rfl hdX6_isAhead ⟨rfl, rfl, Nat.le_of_ble_eq_true rfl, Nat.le_of_ble_eq_true rfl, Nat.le_of_ble_eq_true rfl, Nat.le_of_ble_eq_true rfl⟩ [] [0, 1, 2, 3, 4, 5, 6, 7, 8, 9, 10, 11, 12, 13, 14, 15, 16, 17, 18] [0, 1, 2, 3, 4, 5, 6, 7, 8, 9, 10, 11, 12, 13, 14, 15, 16, 17, 18] rfl rfl (by decide) (fun _ => rfl) rfl (Nat.le_of_ble_eq_true rfl) dX6_whiten_1 (fun r_1 u9 h => ?_)
  refine z_if_eq 23 F dX6_whiten_4 (by decide) (fun c9 => ?_) (fun c9 => ?_)
  · have h := h.1 c9
    refine z_bipush (v := -2) F dX6_whiten_23 rfl ?_
    exact hret (-2 : Int32) (vg, vs, vc) _ _ h dX6_whiten_25
  · have h := h.2 c9
    refine z_iload_n F dX6_whiten_7 rfl 2 rfl ?_
    refine z_callSi (fun _ => wCE_gsc G a vg vs vc) F (mX6_isAmount G p2 _ h) gX6_whiten_X6_isAmount rfl hdX6_isAmount ⟨rfl, rfl, Nat.le_of_ble_eq_true rfl, Nat.le_of_ble_eq_true rfl, Nat.le_of_ble_eq_true rfl, Nat.le_of_ble_eq_true rfl⟩ [] [0, 1, 2, 3, 4, 5, 6, 7, 8, 9, 10, 11, 12, 13, 14, 15, 16, 17, 18] [0, 1, 2, 3, 4, 5, 6, 7, 8, 9, 10, 11, 12, 13, 14, 15, 16, 17, 18] rfl rfl (by decide) (fun _ => rfl) rfl (Nat.le_of_ble_eq_true rfl) dX6_whiten_8 (fun r_2 u9 h => ?_)
    refine z_if_eq 23 F dX6_whiten_11 (by decide) (fun c9 => ?_) (fun c9 => ?_)
    · have h := h.1 c9
      refine z_bipush (v := -2) F dX6_whiten_23 rfl ?_
      exact hret (-2 : Int32) (vg, vs, vc) _ _ h dX6_whiten_25
    · have h := h.2 c9
      refine z_iload_n F dX6_whiten_14 rfl 3 rfl ?_
      refine z_iconst (v := 0) F dX6_whiten_15 rfl ?_
      refine z_iconst (v := 1) F dX6_whiten_16 rfl ?_
      refine z_callSi (fun _ => wCE_gsc G a vg vs vc) F (mX6_isWithin G p3 (0 : Int32) (1 : Int32) _ h) gX6_whiten_X6_isWithin rfl hdX6_isWithin ⟨rfl, rfl, Nat.le_of_ble_eq_true rfl, Nat.le_of_ble_eq_true rfl, Nat.le_of_ble_eq_true rfl, Nat.le_of_ble_eq_true rfl⟩ [] [0, 1, 2, 3, 4, 5, 6, 7, 8, 9, 10, 11, 12, 13, 14, 15, 16, 17, 18] [0, 1, 2, 3, 4, 5, 6, 7, 8, 9, 10, 11, 12, 13, 14, 15, 16, 17, 18] rfl rfl (by decide) (fun _ => rfl) rfl (Nat.le_of_ble_eq_true rfl) dX6_whiten_17 (fun r_3 u9 h => ?_)
      refine z_if_ne 26 F dX6_whiten_20 (by decide) (fun c9 => ?_) (fun c9 => ?_)
      · have h := h.1 c9
        refine z_bipush (v := -6) F dX6_whiten_26 rfl ?_
        refine z_istore [(4, .int (-6 : Int32)), (0, .ref (a 0)), (1, .int p1), (2, .int p2), (3, .int p3)] F dX6_whiten_28 (by decide) rfl ?_
        refine z_iconst (v := 5) F dX6_whiten_30 rfl ?_
        refine z_istore [(5, .int (5 : Int32)), (4, .int (-6 : Int32)), (0, .ref (a 0)), (1, .int p1), (2, .int p2), (3, .int p3)] F dX6_whiten_31 (by decide) rfl ?_
        refine z_iconst (v := 0) F dX6_whiten_33 rfl ?_
        refine z_istore [(6, .int (0 : Int32)), (5, .int (5 : Int32)), (4, .int (-6 : Int32)), (0, .ref (a 0)), (1, .int p1), (2, .int p2), (3, .int p3)] F dX6_whiten_34 (by decide) rfl ?_
        obtain ⟨n9, h⟩ := h
        exact z_lv [3, 4, 5, 6, 2, 1, 0] rfl (t36 n9 vg vs vc p1 p2 p3 (-6 : Int32) (5 : Int32) (0 : Int32) h)
      · have h := h.2 c9
        refine z_bipush (v := -2) F dX6_whiten_23 rfl ?_
        exact hret (-2 : Int32) (vg, vs, vc) _ _ h dX6_whiten_25
abbrev rmX6_echoAlone : Room := { frames := 3, cells := 0, slots := 0, locals := 70 }
set_option maxRecDepth 100000 in
set_option maxHeartbeats 4000000 in
theorem mX6_echoAlone (G : ZG) (a : Nat → Nat) (vg : Gr) (vc : Co) (p1 : Int32) (p2 : Int32) (Q : Int32 → Gr → Co → Prop) (h : wpX6_echoAlone vg vc p1 p2 Q) : ZMi G yX6_echoAlone wsX6_echoAlone rmX6_echoAlone [.ref (a 0), .int p1, .int p2] (wCE_gc G a vg vc) (fun u9 : Gr × Co => wCE_gc G a u9.1 u9.2) (fun r u9 => Q r u9.1 u9.2) := by
  refine z_ofi (cc := cX6_echoAlone) (N := 3) (lv := [(0, .ref (a 0)), (1, .int p1), (2, .int p2)]) (by decide) rfl (Nat.le_of_ble_eq_true rfl) rfl (fun E F hret => ?_)
  have F : ZF E 3 cX6_echoAlone RX6 wsX6_echoAlone rmX6_echoAlone G := F
  have f0 : ZW E (.fieldLink RX6 36 "ColourEcho" "course" "LColourEcho$Course;") := F.at 1 rfl
  have f1 : ZW E (.fieldLink RX6 12 "ColourEcho" "gorge" "LColourEcho$Gorge;") := F.at 2 rfl
  have iX6 : ∀ x ∈ u_ws RX6 TX6 11, x ∈ wsX6_echoAlone := fun _ h => List.mem_cons_of_mem _ (List.mem_append_left _ (List.mem_append_left _ (List.mem_append_right _ h)))
  unfold wpX6_echoAlone at h
  refine z_aload_n F dX6_echoAlone_0 rfl 0 rfl ?_
  refine z_get (ci := 6) F iX6 0 rfl rfl 4 (by decide) f0 rfl rfl dX6_echoAlone_1 ?_
  refine z_iload_n F dX6_echoAlone_4 rfl 1 rfl ?_
  refine z_callVv (fun u9 => wCE_gc G a vg u9) F (mX0_fromNothing G (fun k => a (28 + k)) vc p1 _ h) gX6_echoAlone_X0_fromNothing rfl hdX0_fromNothing ⟨rfl, rfl, Nat.le_of_ble_eq_true rfl, Nat.le_of_ble_eq_true rfl, Nat.le_of_ble_eq_true rfl, Nat.le_of_ble_eq_true rfl⟩ 9 rfl rfl [9, 10] [0, 1, 2, 3, 4, 5, 6, 7, 8] [0, 1, 2, 3, 4, 5, 6, 7, 8, 9, 10] rfl rfl (by decide) (fun _ => rfl) rfl (Nat.le_of_ble_eq_true rfl) dX6_echoAlone_5 (fun vc_1 h => ?_)
  refine z_aload_n F dX6_echoAlone_8 rfl 0 rfl ?_
  refine z_get (ci := 6) F iX6 0 rfl rfl 4 (by decide) f0 rfl rfl dX6_echoAlone_9 ?_
  refine z_aload_n F dX6_echoAlone_12 rfl 0 rfl ?_
  refine z_get (ci := 6) F iX6 0 rfl rfl 0 (by decide) f1 rfl rfl dX6_echoAlone_13 ?_
  refine z_iload_n F dX6_echoAlone_16 rfl 2 rfl ?_
  refine z_iconst (v := 0) F dX6_echoAlone_17 rfl ?_
  refine z_callVv (fun u9 => wCE_gc G a u9.2 u9.1) F (mX0_run G (fun k => a (28 + k)) (fun k => a (1 + k)) vc_1 vg p2 (0 : Int32) _ h) gX6_echoAlone_X0_run rfl hdX0_run ⟨rfl, rfl, Nat.le_of_ble_eq_true rfl, Nat.le_of_ble_eq_true rfl, Nat.le_of_ble_eq_true rfl, Nat.le_of_ble_eq_true rfl⟩ 9 rfl rfl [9, 10, 1, 2, 3, 4, 5, 6, 7, 8] [0] [0, 3, 4, 5, 6, 7, 8, 9, 10, 1, 2] rfl rfl (by decide) (fun _ => rfl) rfl (Nat.le_of_ble_eq_true rfl) dX6_echoAlone_18 (fun u9 h => ?_)
  obtain ⟨vc_2, vg_3⟩ := u9
  refine z_w (w' := wCE_gc G a vg_3 vc_2) rfl ?_
  refine z_aload_n F dX6_echoAlone_21 rfl 0 rfl ?_
  refine z_get (ci := 6) F iX6 0 rfl rfl 4 (by decide) f0 rfl rfl dX6_echoAlone_22 ?_
  refine z_iload_n F dX6_echoAlone_25 rfl 2 rfl ?_
  refine z_callVi (fun u9 => wCE_gc G a vg_3 u9) F (mX0_at G (fun k => a (28 + k)) vc_2 p2 _ h) gX6_echoAlone_X0_at rfl hdX0_at ⟨rfl, rfl, Nat.le_of_ble_eq_true rfl, Nat.le_of_ble_eq_true rfl, Nat.le_of_ble_eq_true rfl, Nat.le_of_ble_eq_true rfl⟩ 9 rfl rfl [9, 10] [0, 1, 2, 3, 4, 5, 6, 7, 8] [0, 1, 2, 3, 4, 5, 6, 7, 8, 9, 10] rfl rfl (by decide) (fun _ => rfl) rfl (Nat.le_of_ble_eq_true rfl) dX6_echoAlone_26 (fun r_4 vc_5 h => ?_)
  exact hret r_4 (vg_3, vc_5) _ _ h dX6_echoAlone_29
abbrev rmX6_fillEchoes : Room := { frames := 4, cells := 0, slots := 0, locals := 92 }
set_option maxRecDepth 100000 in
set_option maxHeartbeats 4000000 in
theorem mX6_fillEchoes (G : ZG) (a : Nat → Nat) (vg : Gr) (vc : Co) (vh : Ec) (p1 : Int32) (Q : Gr → Co → Ec → Prop) (h : wpX6_fillEchoes vg vc vh p1 Q) : ZMv G yX6_fillEchoes wsX6_fillEchoes rmX6_fillEchoes [.ref (a 0), .int p1] (wCE_gch G a vg vc vh) (fun u9 : Gr × Co × Ec => wCE_gch G a u9.1 u9.2.1 u9.2.2) (fun u9 => Q u9.1 u9.2.1 u9.2.2) := by
  refine z_ofv (cc := cX6_fillEchoes) (N := 4) (lv := [(0, .ref (a 0)), (1, .int p1)]) (by decide) rfl (Nat.le_of_ble_eq_true rfl) rfl (fun E F hret => ?_)
  have F : ZF E 4 cX6_fillEchoes RX6 wsX6_fillEchoes rmX6_fillEchoes G := F
  have f0 : ZW E (.fieldLink RX6 64 "ColourEcho" "echoes" "[I") := F.at 1 rfl
  have f1 : ZW E (.fieldLink RX6 12 "ColourEcho" "gorge" "LColourEcho$Gorge;") := F.at 2 rfl
  have iX6 : ∀ x ∈ u_ws RX6 TX6 11, x ∈ wsX6_fillEchoes := fun _ h => List.mem_cons_of_mem _ (List.mem_append_left _ (List.mem_append_left _ (List.mem_append_right _ h)))
  have t10 : ∀ (K2 : Gr → Co → Ec → Int32 → Int32 → Prop) (ih2 : ∀ (vg : Gr) (vc : Co) (vh : Ec) (x1 : Int32) (x2 : Int32), K2 vg vc vh x1 x2 → Z E 4 0 0 (wCE_gch G a vg vc vh) [(0, .ref (a 0)), (1, .int x1), (2, .int x2)] 2 []) (n : Nat) (vg : Gr) (vc : Co) (vh : Ec) (x1 : Int32) (x2 : Int32) (x3 : Int32), wpX6_fillEchoes_L10 Q K2 n vg vc vh x1 x2 x3 → Z E 4 0 0 (wCE_gch G a vg vc vh) [(0, .ref (a 0)), (1, .int x1), (2, .int x2), (3, .int x3)] 10 [] := by
    intro K2 ih2 n
    induction n with
    | zero => intro vg vc vh x1 x2 x3 h; exact h.elim
    | succ n ihQ =>
      have ih10 : ∀ (vg : Gr) (vc : Co) (vh : Ec) (x1 : Int32) (x2 : Int32) (x3 : Int32), wpX6_fillEchoes_L10 Q K2 n vg vc vh x1 x2 x3 → Z E 4 0 0 (wCE_gch G a vg vc vh) [(0, .ref (a 0)), (1, .int x1), (2, .int x2), (3, .int x3)] 10 [] := ihQ
      intro vg vc vh x1 x2 x3 h
      have h : wpX6_fillEchoes_H10 Q K2 (wpX6_fillEchoes_L10 Q K2 n) vg vc vh x1 x2 x3 := h
      generalize wpX6_fillEchoes_L10 Q K2 n = K10 at h ih10
      clear ihQ
      unfold wpX6_fillEchoes_H10 at h
      refine z_iload_n F dX6_fillEchoes_10 rfl 3 rfl ?_
      refine z_iconst (v := 3) F dX6_fillEchoes_11 rfl ?_
      refine z_icmp_ge 45 F dX6_fillEchoes_12 (by decide) (fun c9 => ?_) (fun c9 => ?_)
      · have h := h.1 c9
        obtain ⟨x2_1, e9⟩ : ∃ z : Int32, z = x2 + 1 := ⟨_, rfl⟩
        have h := h x2_1 e9
        refine z_iinc (v := x2_1) [(2, .int x2_1), (0, .ref (a 0)), (1, .int x1), (3, .int x3)] F dX6_fillEchoes_45 2 rfl (by rw [e9]; rfl) (by decide) rfl ?_
        refine z_goto 2 F dX6_fillEchoes_48 (by decide) ?_
        exact z_lv [1, 2, 0] rfl (ih2 vg vc vh x1 x2_1 h)
      · have h := h.2 c9
        refine z_aload_n F dX6_fillEchoes_15 rfl 0 rfl ?_
        refine z_get (ci := 6) F iX6 0 rfl rfl 10 (by decide) f0 rfl rfl dX6_fillEchoes_16 ?_
        refine z_iload_n F dX6_fillEchoes_19 rfl 2 rfl ?_
        refine z_iconst (v := 3) F dX6_fillEchoes_20 rfl ?_
        refine z_imul F dX6_fillEchoes_21 ?_
        refine z_iload_n F dX6_fillEchoes_22 rfl 3 rfl ?_
        refine z_iadd F dX6_fillEchoes_23 ?_
        refine z_aload_n F dX6_fillEchoes_24 rfl 0 rfl ?_
        refine z_aload_n F dX6_fillEchoes_25 rfl 0 rfl ?_
        refine z_get (ci := 6) F iX6 0 rfl rfl 0 (by decide) f1 rfl rfl dX6_fillEchoes_26 ?_
        refine z_iload_n F dX6_fillEchoes_29 rfl 2 rfl ?_
        refine z_iload_n F dX6_fillEchoes_30 rfl 3 rfl ?_
        refine z_callVi (fun u9 => wCE_gch G a u9 vc vh) F (mX3_worth G (fun k => a (1 + k)) vg x2 x3 _ h) gX6_fillEchoes_X3_worth rfl hdX3_worth ⟨rfl, rfl, Nat.le_of_ble_eq_true rfl, Nat.le_of_ble_eq_true rfl, Nat.le_of_ble_eq_true rfl, Nat.le_of_ble_eq_true rfl⟩ 1 rfl rfl [1, 2, 3, 4, 5, 6, 7, 8] [0, 9, 10, 11] [0, 4, 5, 6, 7, 8, 9, 10, 11, 1, 2, 3] rfl rfl (by decide) (fun _ => rfl) rfl (Nat.le_of_ble_eq_true rfl) dX6_fillEchoes_31 (fun r_2 vg_3 h => ?_)
        refine z_iload_n F dX6_fillEchoes_34 rfl 1 rfl ?_
        refine z_callVi (fun u9 => wCE_gch G a u9.1 u9.2 vh) F (mX6_echoAlone G a vg_3 vc r_2 x1 _ h) gX6_fillEchoes_X6_echoAlone rfl hdX6_echoAlone ⟨rfl, rfl, Nat.le_of_ble_eq_true rfl, Nat.le_of_ble_eq_true rfl, Nat.le_of_ble_eq_true rfl, Nat.le_of_ble_eq_true rfl⟩ 0 rfl rfl [0, 1, 2, 3, 4, 5, 6, 7, 8, 9, 10] [11] [1, 2, 3, 4, 5, 6, 7, 8, 9, 10, 11, 0] rfl rfl (by decide) (fun _ => rfl) rfl (Nat.le_of_ble_eq_true rfl) dX6_fillEchoes_35 (fun r_4 u9 h => ?_)
        obtain ⟨vg_5, vc_6⟩ := u9
        refine z_w (w' := wCE_gch G a vg_5 vc_6 vh) rfl ?_
        have h9 := h.1
        have h := h.2
        refine z_iast (wCE_gch G a vg_5 vc_6 (Ec_s_echoes vh (upd (Ec_echoes vh) (((x2 * (3 : Int32)) + x3)).toNatClampNeg r_4))) F 11 rfl h9 rfl dX6_fillEchoes_38 ?_
        obtain ⟨x3_7, e9⟩ : ∃ z : Int32, z = x3 + 1 := ⟨_, rfl⟩
        have h := h x3_7 e9
        refine z_iinc (v := x3_7) [(3, .int x3_7), (0, .ref (a 0)), (1, .int x1), (2, .int x2)] F dX6_fillEchoes_39 3 rfl (by rw [e9]; rfl) (by decide) rfl ?_
        refine z_goto 10 F dX6_fillEchoes_42 (by decide) ?_
        exact z_lv [1, 2, 3, 0] rfl (ih10 vg_5 vc_6 (Ec_s_echoes vh (upd (Ec_echoes vh) (((x2 * (3 : Int32)) + x3)).toNatClampNeg r_4)) x1 x2 x3_7 h)
  have t2 : ∀ (n : Nat) (vg : Gr) (vc : Co) (vh : Ec) (x1 : Int32) (x2 : Int32), wpX6_fillEchoes_L2 Q n vg vc vh x1 x2 → Z E 4 0 0 (wCE_gch G a vg vc vh) [(0, .ref (a 0)), (1, .int x1), (2, .int x2)] 2 [] := by
    intro n
    induction n with
    | zero => intro vg vc vh x1 x2 h; exact h.elim
    | succ n ihQ =>
      have ih2 : ∀ (vg : Gr) (vc : Co) (vh : Ec) (x1 : Int32) (x2 : Int32), wpX6_fillEchoes_L2 Q n vg vc vh x1 x2 → Z E 4 0 0 (wCE_gch G a vg vc vh) [(0, .ref (a 0)), (1, .int x1), (2, .int x2)] 2 [] := ihQ
      intro vg vc vh x1 x2 h
      have h : wpX6_fillEchoes_H2 Q (wpX6_fillEchoes_L2 Q n) vg vc vh x1 x2 := h
      generalize wpX6_fillEchoes_L2 Q n = K2 at h ih2
      clear ihQ
      unfold wpX6_fillEchoes_H2 at h
      refine z_iload_n F dX6_fillEchoes_2 rfl 2 rfl ?_
      refine z_bipush (v := 6) F dX6_fillEchoes_3 rfl ?_
      refine z_icmp_ge 51 F dX6_fillEchoes_5 (by decide) (fun c9 => ?_) (fun c9 => ?_)
      · have h := h.1 c9
        exact hret (vg, vc, vh) _ _ h dX6_fillEchoes_51
      · have h := h.2 c9
        refine z_iconst (v := 0) F dX6_fillEchoes_8 rfl ?_
        refine z_istore_n [(3, .int (0 : Int32)), (0, .ref (a 0)), (1, .int x1), (2, .int x2)] F dX6_fillEchoes_9 rfl (by decide) rfl ?_
        obtain ⟨n9, h⟩ := h
        exact z_lv [1, 2, 3, 0] rfl (t10 K2 ih2 n9 vg vc vh x1 x2 (0 : Int32) h)
  unfold wpX6_fillEchoes at h
  refine z_iconst (v := 0) F dX6_fillEchoes_0 rfl ?_
  refine z_istore_n [(2, .int (0 : Int32)), (0, .ref (a 0)), (1, .int p1)] F dX6_fillEchoes_1 rfl (by decide) rfl ?_
  obtain ⟨n9, h⟩ := h
  exact z_lv [1, 2, 0] rfl (t2 n9 vg vc vh p1 (0 : Int32) h)
abbrev rmX6_echoAlike : Room := { frames := 0, cells := 0, slots := 0, locals := 0 }
set_option maxRecDepth 100000 in
set_option maxHeartbeats 4000000 in
theorem mX6_echoAlike (G : ZG) (a : Nat → Nat) (vh : Ec) (p1 : Int32) (p2 : Int32) (Q : Int32 → Ec → Prop) (h : wpX6_echoAlike vh p1 p2 Q) : ZMi G yX6_echoAlike wsX6_echoAlike rmX6_echoAlike [.ref (a 0), .int p1, .int p2] (wCE_h G a vh) (fun vh : Ec => wCE_h G a vh) (Q) := by
  refine z_ofz (cc := cX6_echoAlike) (N := 4) (lv := [(0, .ref (a 0)), (1, .int p1), (2, .int p2)]) (by decide) rfl (Nat.le_of_ble_eq_true rfl) rfl (fun E F hret => ?_)
  have F : ZF E 4 cX6_echoAlike RX6 wsX6_echoAlike rmX6_echoAlike G := F
  have f0 : ZW E (.fieldLink RX6 64 "ColourEcho" "echoes" "[I") := F.at 1 rfl
  have iX6 : ∀ x ∈ u_ws RX6 TX6 11, x ∈ wsX6_echoAlike := fun _ h => List.mem_cons_of_mem _ (List.mem_append_right _ h)
  have t2 : ∀ (n : Nat) (vh : Ec) (x1 : Int32) (x2 : Int32) (x3 : Int32), wpX6_echoAlike_L2 Q n vh x1 x2 x3 → Z E 4 0 0 (wCE_h G a vh) [(0, .ref (a 0)), (1, .int x1), (2, .int x2), (3, .int x3)] 2 [] := by
    intro n
    induction n with
    | zero => intro vh x1 x2 x3 h; exact h.elim
    | succ n ihQ =>
      have ih2 : ∀ (vh : Ec) (x1 : Int32) (x2 : Int32) (x3 : Int32), wpX6_echoAlike_L2 Q n vh x1 x2 x3 → Z E 4 0 0 (wCE_h G a vh) [(0, .ref (a 0)), (1, .int x1), (2, .int x2), (3, .int x3)] 2 [] := ihQ
      intro vh x1 x2 x3 h
      have h : wpX6_echoAlike_H2 Q (wpX6_echoAlike_L2 Q n) vh x1 x2 x3 := h
      generalize wpX6_echoAlike_L2 Q n = K2 at h ih2
      clear ihQ
      unfold wpX6_echoAlike_H2 at h
      refine z_iload_n F dX6_echoAlike_2 rfl 3 rfl ?_
      refine z_iconst (v := 3) F dX6_echoAlike_3 rfl ?_
      refine z_icmp_ge 38 F dX6_echoAlike_4 (by decide) (fun c9 => ?_) (fun c9 => ?_)
      · have h := h.1 c9
        refine z_iconst (v := 1) F dX6_echoAlike_38 rfl ?_
        exact hret (1 : Int32) vh _ _ h dX6_echoAlike_39 (by decide)
      · have h := h.2 c9
        refine z_aload_n F dX6_echoAlike_7 rfl 0 rfl ?_
        refine z_get (ci := 6) F iX6 0 rfl rfl 10 (by decide) f0 rfl rfl dX6_echoAlike_8 ?_
        refine z_iload_n F dX6_echoAlike_11 rfl 1 rfl ?_
        refine z_iconst (v := 3) F dX6_echoAlike_12 rfl ?_
        refine z_imul F dX6_echoAlike_13 ?_
        refine z_iload_n F dX6_echoAlike_14 rfl 3 rfl ?_
        refine z_iadd F dX6_echoAlike_15 ?_
        have h9 := h.1
        have h := h.2
        refine z_iald F 1 rfl h9 dX6_echoAlike_16 ?_
        refine z_aload_n F dX6_echoAlike_17 rfl 0 rfl ?_
        refine z_get (ci := 6) F iX6 0 rfl rfl 10 (by decide) f0 rfl rfl dX6_echoAlike_18 ?_
        refine z_iload_n F dX6_echoAlike_21 rfl 2 rfl ?_
        refine z_iconst (v := 3) F dX6_echoAlike_22 rfl ?_
        refine z_imul F dX6_echoAlike_23 ?_
        refine z_iload_n F dX6_echoAlike_24 rfl 3 rfl ?_
        refine z_iadd F dX6_echoAlike_25 ?_
        have h9 := h.1
        have h := h.2
        refine z_iald F 1 rfl h9 dX6_echoAlike_26 ?_
        refine z_icmp_eq 32 F dX6_echoAlike_27 (by decide) (fun c9 => ?_) (fun c9 => ?_)
        · have h := h.1 c9
          obtain ⟨x3_1, e9⟩ : ∃ z : Int32, z = x3 + 1 := ⟨_, rfl⟩
          have h := h x3_1 e9
          refine z_iinc (v := x3_1) [(3, .int x3_1), (0, .ref (a 0)), (1, .int x1), (2, .int x2)] F dX6_echoAlike_32 3 rfl (by rw [e9]; rfl) (by decide) rfl ?_
          refine z_goto 2 F dX6_echoAlike_35 (by decide) ?_
          exact z_lv [1, 2, 3, 0] rfl (ih2 vh x1 x2 x3_1 h)
        · have h := h.2 c9
          refine z_iconst (v := 0) F dX6_echoAlike_30 rfl ?_
          exact hret (0 : Int32) vh _ _ h dX6_echoAlike_31 (by decide)
  unfold wpX6_echoAlike at h
  refine z_iconst (v := 0) F dX6_echoAlike_0 rfl ?_
  refine z_istore_n [(3, .int (0 : Int32)), (0, .ref (a 0)), (1, .int p1), (2, .int p2)] F dX6_echoAlike_1 rfl (by decide) rfl ?_
  obtain ⟨n9, h⟩ := h
  exact z_lv [1, 2, 3, 0] rfl (t2 n9 vh p1 p2 (0 : Int32) h)
abbrev rmX6_apart : Room := { frames := 5, cells := 0, slots := 0, locals := 115 }
set_option maxRecDepth 100000 in
set_option maxHeartbeats 4000000 in
theorem mX6_apart (G : ZG) (a : Nat → Nat) (vg : Gr) (vc : Co) (vh : Ec) (p1 : Int32) (p2 : Int32) (p3 : Int32) (Q : Int32 → Gr → Co → Ec → Prop) (h : wpX6_apart vg vc vh p1 p2 p3 Q) : ZMi G yX6_apart wsX6_apart rmX6_apart [.ref (a 0), .int p1, .int p2, .int p3] (wCE_gch G a vg vc vh) (fun u9 : Gr × Co × Ec => wCE_gch G a u9.1 u9.2.1 u9.2.2) (fun r u9 => Q r u9.1 u9.2.1 u9.2.2) := by
  refine z_ofi (cc := cX6_apart) (N := 7) (lv := [(0, .ref (a 0)), (1, .int p1), (2, .int p2), (3, .int p3)]) (by decide) rfl (Nat.le_of_ble_eq_true rfl) rfl (fun E F hret => ?_)
  have F : ZF E 7 cX6_apart RX6 wsX6_apart rmX6_apart G := F
  have t97 : ∀ (K30 : Gr → Co → Ec → Int32 → Int32 → Int32 → Int32 → Prop) (K43 : Gr → Co → Ec → Int32 → Int32 → Int32 → Int32 → Int32 → Prop) (ih30 : ∀ (vg : Gr) (vc : Co) (vh : Ec) (x1 : Int32) (x3 : Int32) (x4 : Int32) (x5 : Int32), K30 vg vc vh x1 x3 x4 x5 → Z E 7 0 0 (wCE_gch G a vg vc vh) [(0, .ref (a 0)), (1, .int x1), (3, .int x3), (4, .int x4), (5, .int x5)] 30 []) (ih43 : ∀ (vg : Gr) (vc : Co) (vh : Ec) (x1 : Int32) (x3 : Int32) (x4 : Int32) (x5 : Int32) (x6 : Int32), K43 vg vc vh x1 x3 x4 x5 x6 → Z E 7 0 0 (wCE_gch G a vg vc vh) [(0, .ref (a 0)), (1, .int x1), (3, .int x3), (4, .int x4), (5, .int x5), (6, .int x6)] 43 []) (vg : Gr) (vc : Co) (vh : Ec) (x1 : Int32) (x3 : Int32) (x4 : Int32) (x5 : Int32) (x6 : Int32), wpX6_apart_B97 Q K30 K43 vg vc vh x1 x3 x4 x5 x6 → Z E 7 0 0 (wCE_gch G a vg vc vh) [(0, .ref (a 0)), (1, .int x1), (3, .int x3), (4, .int x4), (5, .int x5), (6, .int x6)] 97 [] := by
    intro K30 K43 ih30 ih43 vg vc vh x1 x3 x4 x5 x6 h
    unfold wpX6_apart_B97 at h
    obtain ⟨x6_13, e9⟩ : ∃ z : Int32, z = x6 + 1 := ⟨_, rfl⟩
    have h := h x6_13 e9
    refine z_iinc (v := x6_13) [(6, .int x6_13), (0, .ref (a 0)), (1, .int x1), (3, .int x3), (4, .int x4), (5, .int x5)] F dX6_apart_97 5 rfl (by rw [e9]; rfl) (by decide) rfl ?_
    refine z_goto 43 F dX6_apart_100 (by decide) ?_
    exact z_lv [1, 2, 3, 4, 5, 0] rfl (ih43 vg vc vh x1 x3 x4 x5 x6_13 h)
  have t43 : ∀ (K30 : Gr → Co → Ec → Int32 → Int32 → Int32 → Int32 → Prop) (ih30 : ∀ (vg : Gr) (vc : Co) (vh : Ec) (x1 : Int32) (x3 : Int32) (x4 : Int32) (x5 : Int32), K30 vg vc vh x1 x3 x4 x5 → Z E 7 0 0 (wCE_gch G a vg vc vh) [(0, .ref (a 0)), (1, .int x1), (3, .int x3), (4, .int x4), (5, .int x5)] 30 []) (n : Nat) (vg : Gr) (vc : Co) (vh : Ec) (x1 : Int32) (x3 : Int32) (x4 : Int32) (x5 : Int32) (x6 : Int32), wpX6_apart_L43 Q K30 n vg vc vh x1 x3 x4 x5 x6 → Z E 7 0 0 (wCE_gch G a vg vc vh) [(0, .ref (a 0)), (1, .int x1), (3, .int x3), (4, .int x4), (5, .int x5), (6, .int x6)] 43 [] := by
    intro K30 ih30 n
    induction n with
    | zero => intro vg vc vh x1 x3 x4 x5 x6 h; exact h.elim
    | succ n ihQ =>
      have ih43 : ∀ (vg : Gr) (vc : Co) (vh : Ec) (x1 : Int32) (x3 : Int32) (x4 : Int32) (x5 : Int32) (x6 : Int32), wpX6_apart_L43 Q K30 n vg vc vh x1 x3 x4 x5 x6 → Z E 7 0 0 (wCE_gch G a vg vc vh) [(0, .ref (a 0)), (1, .int x1), (3, .int x3), (4, .int x4), (5, .int x5), (6, .int x6)] 43 [] := ihQ
      intro vg vc vh x1 x3 x4 x5 x6 h
      have h : wpX6_apart_H43 Q K30 (wpX6_apart_L43 Q K30 n) vg vc vh x1 x3 x4 x5 x6 := h
      generalize wpX6_apart_L43 Q K30 n = K43 at h ih43
      clear ihQ
      unfold wpX6_apart_H43 at h
      refine z_iload F dX6_apart_43 5 rfl ?_
      refine z_bipush (v := 6) F dX6_apart_45 rfl ?_
      refine z_icmp_ge 103 F dX6_apart_47 (by decide) (fun c9 => ?_) (fun c9 => ?_)
      · have h := h.1 c9
        obtain ⟨x5_7, e9⟩ : ∃ z : Int32, z = x5 + 1 := ⟨_, rfl⟩
        have h := h x5_7 e9
        refine z_iinc (v := x5_7) [(5, .int x5_7), (0, .ref (a 0)), (1, .int x1), (3, .int x3), (4, .int x4), (6, .int x6)] F dX6_apart_103 4 rfl (by rw [e9]; rfl) (by decide) rfl ?_
        refine z_goto 30 F dX6_apart_106 (by decide) ?_
        exact z_lv [1, 2, 3, 4, 0] rfl (ih30 vg vc vh x1 x3 x4 x5_7 h)
      · have h := h.2 c9
        refine z_iload_n F dX6_apart_50 rfl 1 rfl ?_
        refine z_iload F dX6_apart_51 4 rfl ?_
        refine z_callSi (fun _ => wCE_gch G a vg vc vh) F (mX6_has G x1 x5 _ h) gX6_apart_X6_has rfl hdX6_has ⟨rfl, rfl, Nat.le_of_ble_eq_true rfl, Nat.le_of_ble_eq_true rfl, Nat.le_of_ble_eq_true rfl, Nat.le_of_ble_eq_true rfl⟩ [] [0, 1, 2, 3, 4, 5, 6, 7, 8, 9, 10, 11] [0, 1, 2, 3, 4, 5, 6, 7, 8, 9, 10, 11] rfl rfl (by decide) (fun _ => rfl) rfl (Nat.le_of_ble_eq_true rfl) dX6_apart_53 (fun r_8 u9 h => ?_)
        refine z_if_eq 97 F dX6_apart_56 (by decide) (fun c9 => ?_) (fun c9 => ?_)
        · have h := h.1 c9
          exact z_lv [0, 1, 2, 3, 4, 5] rfl (t97 K30 K43 ih30 ih43 vg vc vh x1 x3 x4 x5 x6 h)
        · have h := h.2 c9
          refine z_iload_n F dX6_apart_59 rfl 1 rfl ?_
          refine z_iload F dX6_apart_60 5 rfl ?_
          refine z_callSi (fun _ => wCE_gch G a vg vc vh) F (mX6_has G x1 x6 _ h) gX6_apart_X6_has rfl hdX6_has ⟨rfl, rfl, Nat.le_of_ble_eq_true rfl, Nat.le_of_ble_eq_true rfl, Nat.le_of_ble_eq_true rfl, Nat.le_of_ble_eq_true rfl⟩ [] [0, 1, 2, 3, 4, 5, 6, 7, 8, 9, 10, 11] [0, 1, 2, 3, 4, 5, 6, 7, 8, 9, 10, 11] rfl rfl (by decide) (fun _ => rfl) rfl (Nat.le_of_ble_eq_true rfl) dX6_apart_62 (fun r_9 u9 h => ?_)
          refine z_if_eq 97 F dX6_apart_65 (by decide) (fun c9 => ?_) (fun c9 => ?_)
          · have h := h.1 c9
            exact z_lv [0, 1, 2, 3, 4, 5] rfl (t97 K30 K43 ih30 ih43 vg vc vh x1 x3 x4 x5 x6 h)
          · have h := h.2 c9
            refine z_aload_n F dX6_apart_68 rfl 0 rfl ?_
            refine z_iload F dX6_apart_69 4 rfl ?_
            refine z_iload F dX6_apart_71 5 rfl ?_
            refine z_callVi (fun u9 => wCE_gch G a vg vc u9) F (mX6_echoAlike G a vh x5 x6 _ h) gX6_apart_X6_echoAlike rfl hdX6_echoAlike ⟨rfl, rfl, Nat.le_of_ble_eq_true rfl, Nat.le_of_ble_eq_true rfl, Nat.le_of_ble_eq_true rfl, Nat.le_of_ble_eq_true rfl⟩ 0 rfl rfl [0, 11] [1, 2, 3, 4, 5, 6, 7, 8, 9, 10] [10, 0, 1, 2, 3, 4, 5, 6, 7, 8, 9, 11] rfl rfl (by decide) (fun _ => rfl) rfl (Nat.le_of_ble_eq_true rfl) dX6_apart_73 (fun r_10 vh_11 h => ?_)
            refine z_if_eq 97 F dX6_apart_76 (by decide) (fun c9 => ?_) (fun c9 => ?_)
            · have h := h.1 c9
              exact z_lv [0, 1, 2, 3, 4, 5] rfl (t97 K30 K43 ih30 ih43 vg vc vh_11 x1 x3 x4 x5 x6 h)
            · have h := h.2 c9
              refine z_iload F dX6_apart_79 3 rfl ?_
              refine z_iload_n F dX6_apart_81 rfl 2 rfl ?_
              refine z_icmp_ne 94 F dX6_apart_82 (by decide) (fun c9 => ?_) (fun c9 => ?_)
              · have h := h.1 c9
                obtain ⟨x4_12, e9⟩ : ∃ z : Int32, z = x4 + 1 := ⟨_, rfl⟩
                have h := h x4_12 e9
                refine z_iinc (v := x4_12) [(4, .int x4_12), (0, .ref (a 0)), (1, .int x1), (3, .int x3), (5, .int x5), (6, .int x6)] F dX6_apart_94 3 rfl (by rw [e9]; rfl) (by decide) rfl ?_
                exact z_lv [1, 2, 3, 0, 4, 5] rfl (t97 K30 K43 ih30 ih43 vg vc vh_11 x1 x3 x4_12 x5 x6 h)
              · have h := h.2 c9
                refine z_bipush (v := 10) F dX6_apart_85 rfl ?_
                refine z_iload F dX6_apart_87 4 rfl ?_
                refine z_imul F dX6_apart_89 ?_
                refine z_iload F dX6_apart_90 5 rfl ?_
                refine z_iadd F dX6_apart_92 ?_
                exact hret (((10 : Int32) * x5) + x6) (vg, vc, vh_11) _ _ h dX6_apart_93
  have t30 : ∀ (n : Nat) (vg : Gr) (vc : Co) (vh : Ec) (x1 : Int32) (x3 : Int32) (x4 : Int32) (x5 : Int32), wpX6_apart_L30 Q n vg vc vh x1 x3 x4 x5 → Z E 7 0 0 (wCE_gch G a vg vc vh) [(0, .ref (a 0)), (1, .int x1), (3, .int x3), (4, .int x4), (5, .int x5)] 30 [] := by
    intro n
    induction n with
    | zero => intro vg vc vh x1 x3 x4 x5 h; exact h.elim
    | succ n ihQ =>
      have ih30 : ∀ (vg : Gr) (vc : Co) (vh : Ec) (x1 : Int32) (x3 : Int32) (x4 : Int32) (x5 : Int32), wpX6_apart_L30 Q n vg vc vh x1 x3 x4 x5 → Z E 7 0 0 (wCE_gch G a vg vc vh) [(0, .ref (a 0)), (1, .int x1), (3, .int x3), (4, .int x4), (5, .int x5)] 30 [] := ihQ
      intro vg vc vh x1 x3 x4 x5 h
      have h : wpX6_apart_H30 Q (wpX6_apart_L30 Q n) vg vc vh x1 x3 x4 x5 := h
      generalize wpX6_apart_L30 Q n = K30 at h ih30
      clear ihQ
      unfold wpX6_apart_H30 at h
      refine z_iload F dX6_apart_30 4 rfl ?_
      refine z_bipush (v := 6) F dX6_apart_32 rfl ?_
      refine z_icmp_ge 109 F dX6_apart_34 (by decide) (fun c9 => ?_) (fun c9 => ?_)
      · have h := h.1 c9
        refine z_iload_n F dX6_apart_109 rfl 2 rfl ?_
        refine z_iconst (v := -1) F dX6_apart_110 rfl ?_
        refine z_icmp_ne 119 F dX6_apart_111 (by decide) (fun c9 => ?_) (fun c9 => ?_)
        · have h := h.1 c9
          refine z_bipush (v := -6) F dX6_apart_119 rfl ?_
          exact hret (-6 : Int32) (vg, vc, vh) _ _ h dX6_apart_121
        · have h := h.2 c9
          refine z_iload F dX6_apart_114 3 rfl ?_
          refine z_goto 121 F dX6_apart_116 (by decide) ?_
          exact hret x4 (vg, vc, vh) _ _ h dX6_apart_121
      · have h := h.2 c9
        refine z_iload F dX6_apart_37 4 rfl ?_
        refine z_iconst (v := 1) F dX6_apart_39 rfl ?_
        refine z_iadd F dX6_apart_40 ?_
        refine z_topi (fun x6_6 e9 => ?_)
        have h := h x6_6 e9
        refine z_istore [(6, .int x6_6), (0, .ref (a 0)), (1, .int x1), (3, .int x3), (4, .int x4), (5, .int x5)] F dX6_apart_41 (by decide) rfl ?_
        obtain ⟨n9, h⟩ := h
        exact z_lv [1, 2, 3, 4, 5, 0] rfl (t43 K30 ih30 n9 vg vc vh x1 x3 x4 x5 x6_6 h)
  unfold wpX6_apart at h
  refine z_iload_n F dX6_apart_0 rfl 1 rfl ?_
  refine z_callSi (fun _ => wCE_gch G a vg vc vh) F (mX6_isSet G p1 _ h) gX6_apart_X6_isSet rfl hdX6_isSet ⟨rfl, rfl, Nat.le_of_ble_eq_true rfl, Nat.le_of_ble_eq_true rfl, Nat.le_of_ble_eq_true rfl, Nat.le_of_ble_eq_true rfl⟩ [] [0, 1, 2, 3, 4, 5, 6, 7, 8, 9, 10, 11] [0, 1, 2, 3, 4, 5, 6, 7, 8, 9, 10, 11] rfl rfl (by decide) (fun _ => rfl) rfl (Nat.le_of_ble_eq_true rfl) dX6_apart_1 (fun r_1 u9 h => ?_)
  refine z_if_ne 9 F dX6_apart_4 (by decide) (fun c9 => ?_) (fun c9 => ?_)
  · have h := h.1 c9
    refine z_iload_n F dX6_apart_9 rfl 2 rfl ?_
    refine z_callSi (fun _ => wCE_gch G a vg vc vh) F (mX6_isAhead G p2 _ h) gX6_apart_X6_isAhead rfl hdX6_isAhead ⟨rfl, rfl, Nat.le_of_ble_eq_true rfl, Nat.le_of_ble_eq_true rfl, Nat.le_of_ble_eq_true rfl, Nat.le_of_ble_eq_true rfl⟩ [] [0, 1, 2, 3, 4, 5, 6, 7, 8, 9, 10, 11] [0, 1, 2, 3, 4, 5, 6, 7, 8, 9, 10, 11] rfl rfl (by decide) (fun _ => rfl) rfl (Nat.le_of_ble_eq_true rfl) dX6_apart_10 (fun r_2 u9 h => ?_)
    refine z_if_ne 19 F dX6_apart_13 (by decide) (fun c9 => ?_) (fun c9 => ?_)
    · have h := h.1 c9
      refine z_aload_n F dX6_apart_19 rfl 0 rfl ?_
      refine z_iload_n F dX6_apart_20 rfl 2 rfl ?_
      refine z_callVv (fun u9 => wCE_gch G a u9.1 u9.2.1 u9.2.2) F (mX6_fillEchoes G a vg vc vh p2 _ h) gX6_apart_X6_fillEchoes rfl hdX6_fillEchoes ⟨rfl, rfl, Nat.le_of_ble_eq_true rfl, Nat.le_of_ble_eq_true rfl, Nat.le_of_ble_eq_true rfl, Nat.le_of_ble_eq_true rfl⟩ 0 rfl rfl [0, 1, 2, 3, 4, 5, 6, 7, 8, 9, 10, 11] [] [0, 1, 2, 3, 4, 5, 6, 7, 8, 9, 10, 11] rfl rfl (by decide) (fun _ => rfl) rfl (Nat.le_of_ble_eq_true rfl) dX6_apart_21 (fun u9 h => ?_)
      obtain ⟨vg_3, vc_4, vh_5⟩ := u9
      refine z_w (w' := wCE_gch G a vg_3 vc_4 vh_5) rfl ?_
      refine z_iconst (v := 0) F dX6_apart_24 rfl ?_
      refine z_istore [(4, .int (0 : Int32)), (0, .ref (a 0)), (1, .int p1), (2, .int p2), (3, .int p3)] F dX6_apart_25 (by decide) rfl ?_
      refine z_iconst (v := 0) F dX6_apart_27 rfl ?_
      refine z_istore [(5, .int (0 : Int32)), (4, .int (0 : Int32)), (0, .ref (a 0)), (1, .int p1), (2, .int p2), (3, .int p3)] F dX6_apart_28 (by decide) rfl ?_
      obtain ⟨n9, h⟩ := h
      exact z_lv [2, 3, 5, 1, 0] rfl (t30 n9 vg_3 vc_4 vh_5 p1 p3 (0 : Int32) (0 : Int32) h)
    · have h := h.2 c9
      refine z_bipush (v := -2) F dX6_apart_16 rfl ?_
      exact hret (-2 : Int32) (vg, vc, vh) _ _ h dX6_apart_18
  · have h := h.2 c9
    refine z_iconst (v := -1) F dX6_apart_7 rfl ?_
    exact hret (-1 : Int32) (vg, vc, vh) _ _ h dX6_apart_8
abbrev rmX6_spoil : Room := { frames := 4, cells := 0, slots := 0, locals := 92 }
set_option maxRecDepth 100000 in
set_option maxHeartbeats 4000000 in
theorem mX6_spoil (G : ZG) (a : Nat → Nat) (vg : Gr) (vc : Co) (p1 : Int32) (p2 : Int32) (p3 : Int32) (Q : Int32 → Gr → Co → Prop) (h : wpX6_spoil vg vc p1 p2 p3 Q) : ZMi G yX6_spoil wsX6_spoil rmX6_spoil [.ref (a 0), .int p1, .int p2, .int p3] (wCE_gc G a vg vc) (fun u9 : Gr × Co => wCE_gc G a u9.1 u9.2) (fun r u9 => Q r u9.1 u9.2) := by
  refine z_ofi (cc := cX6_spoil) (N := 8) (lv := [(0, .ref (a 0)), (1, .int p1), (2, .int p2), (3, .int p3)]) (by decide) rfl (Nat.le_of_ble_eq_true rfl) rfl (fun E F hret => ?_)
  have F : ZF E 8 cX6_spoil RX6 wsX6_spoil rmX6_spoil G := F
  have f0 : ZW E (.fieldLink RX6 12 "ColourEcho" "gorge" "LColourEcho$Gorge;") := F.at 1 rfl
  have iX6 : ∀ x ∈ u_ws RX6 TX6 11, x ∈ wsX6_spoil := fun _ h => List.mem_cons_of_mem _ (List.mem_append_left _ (List.mem_append_left _ (List.mem_append_right _ h)))
  have t39 : ∀ (n : Nat) (vg : Gr) (vc : Co) (x1 : Int32) (x2 : Int32) (x3 : Int32) (x4 : Int32) (x5 : Int32), wpX6_spoil_L39 Q n vg vc x1 x2 x3 x4 x5 → Z E 8 0 0 (wCE_gc G a vg vc) [(0, .ref (a 0)), (1, .int x1), (2, .int x2), (3, .int x3), (4, .int x4), (5, .int x5)] 39 [] := by
    intro n
    induction n with
    | zero => intro vg vc x1 x2 x3 x4 x5 h; exact h.elim
    | succ n ihQ =>
      have ih39 : ∀ (vg : Gr) (vc : Co) (x1 : Int32) (x2 : Int32) (x3 : Int32) (x4 : Int32) (x5 : Int32), wpX6_spoil_L39 Q n vg vc x1 x2 x3 x4 x5 → Z E 8 0 0 (wCE_gc G a vg vc) [(0, .ref (a 0)), (1, .int x1), (2, .int x2), (3, .int x3), (4, .int x4), (5, .int x5)] 39 [] := ihQ
      intro vg vc x1 x2 x3 x4 x5 h
      have h : wpX6_spoil_H39 Q (wpX6_spoil_L39 Q n) vg vc x1 x2 x3 x4 x5 := h
      generalize wpX6_spoil_L39 Q n = K39 at h ih39
      clear ihQ
      unfold wpX6_spoil_H39 at h
      refine z_iload F dX6_spoil_39 5 rfl ?_
      refine z_iconst (v := 3) F dX6_spoil_41 rfl ?_
      refine z_icmp_ge 106 F dX6_spoil_42 (by decide) (fun c9 => ?_) (fun c9 => ?_)
      · have h := h.1 c9
        refine z_iload F dX6_spoil_106 4 rfl ?_
        exact hret x4 (vg, vc) _ _ h dX6_spoil_108
      · have h := h.2 c9
        refine z_aload_n F dX6_spoil_45 rfl 0 rfl ?_
        refine z_get (ci := 6) F iX6 0 rfl rfl 0 (by decide) f0 rfl rfl dX6_spoil_46 ?_
        refine z_iload_n F dX6_spoil_49 rfl 1 rfl ?_
        refine z_iload F dX6_spoil_50 5 rfl ?_
        refine z_callVi (fun u9 => wCE_gc G a u9 vc) F (mX3_worth G (fun k => a (1 + k)) vg x1 x5 _ h) gX6_spoil_X3_worth rfl hdX3_worth ⟨rfl, rfl, Nat.le_of_ble_eq_true rfl, Nat.le_of_ble_eq_true rfl, Nat.le_of_ble_eq_true rfl, Nat.le_of_ble_eq_true rfl⟩ 1 rfl rfl [1, 2, 3, 4, 5, 6, 7, 8] [0, 9, 10] [0, 3, 4, 5, 6, 7, 8, 9, 10, 1, 2] rfl rfl (by decide) (fun _ => rfl) rfl (Nat.le_of_ble_eq_true rfl) dX6_spoil_52 (fun r_4 vg_5 h => ?_)
        refine z_istore [(6, .int r_4), (0, .ref (a 0)), (1, .int x1), (2, .int x2), (3, .int x3), (4, .int x4), (5, .int x5)] F dX6_spoil_55 (by decide) rfl ?_
        refine z_aload_n F dX6_spoil_57 rfl 1 rfl ?_
        refine z_get (ci := 6) F iX6 0 rfl rfl 0 (by decide) f0 rfl rfl dX6_spoil_58 ?_
        refine z_iload_n F dX6_spoil_61 rfl 3 rfl ?_
        refine z_iload F dX6_spoil_62 6 rfl ?_
        refine z_callVi (fun u9 => wCE_gc G a u9 vc) F (mX3_worth G (fun k => a (1 + k)) vg_5 x2 x5 _ h) gX6_spoil_X3_worth rfl hdX3_worth ⟨rfl, rfl, Nat.le_of_ble_eq_true rfl, Nat.le_of_ble_eq_true rfl, Nat.le_of_ble_eq_true rfl, Nat.le_of_ble_eq_true rfl⟩ 1 rfl rfl [1, 2, 3, 4, 5, 6, 7, 8] [0, 9, 10] [0, 3, 4, 5, 6, 7, 8, 9, 10, 1, 2] rfl rfl (by decide) (fun _ => rfl) rfl (Nat.le_of_ble_eq_true rfl) dX6_spoil_64 (fun r_6 vg_7 h => ?_)
        refine z_istore [(7, .int r_6), (6, .int r_4), (0, .ref (a 0)), (1, .int x1), (2, .int x2), (3, .int x3), (4, .int x4), (5, .int x5)] F dX6_spoil_67 (by decide) rfl ?_
        refine z_iload F dX6_spoil_69 6 rfl ?_
        refine z_aload_n F dX6_spoil_71 rfl 2 rfl ?_
        refine z_iload F dX6_spoil_72 1 rfl ?_
        refine z_iload F dX6_spoil_74 0 rfl ?_
        refine z_iadd F dX6_spoil_76 ?_
        refine z_iload_n F dX6_spoil_77 rfl 5 rfl ?_
        refine z_callVi (fun u9 => wCE_gc G a u9.1 u9.2) F (mX6_echoAlone G a vg_7 vc (r_4 + r_6) x3 _ h) gX6_spoil_X6_echoAlone rfl hdX6_echoAlone ⟨rfl, rfl, Nat.le_of_ble_eq_true rfl, Nat.le_of_ble_eq_true rfl, Nat.le_of_ble_eq_true rfl, Nat.le_of_ble_eq_true rfl⟩ 0 rfl rfl [0, 1, 2, 3, 4, 5, 6, 7, 8, 9, 10] [] [0, 1, 2, 3, 4, 5, 6, 7, 8, 9, 10] rfl rfl (by decide) (fun _ => rfl) rfl (Nat.le_of_ble_eq_true rfl) dX6_spoil_78 (fun r_8 u9 h => ?_)
        obtain ⟨vg_9, vc_10⟩ := u9
        refine z_w (w' := wCE_gc G a vg_9 vc_10) rfl ?_
        refine z_aload_n F dX6_spoil_81 rfl 2 rfl ?_
        refine z_iload F dX6_spoil_82 1 rfl ?_
        refine z_iload_n F dX6_spoil_84 rfl 5 rfl ?_
        refine z_callVi (fun u9 => wCE_gc G a u9.1 u9.2) F (mX6_echoAlone G a vg_9 vc_10 r_4 x3 _ h) gX6_spoil_X6_echoAlone rfl hdX6_echoAlone ⟨rfl, rfl, Nat.le_of_ble_eq_true rfl, Nat.le_of_ble_eq_true rfl, Nat.le_of_ble_eq_true rfl, Nat.le_of_ble_eq_true rfl⟩ 0 rfl rfl [0, 1, 2, 3, 4, 5, 6, 7, 8, 9, 10] [] [0, 1, 2, 3, 4, 5, 6, 7, 8, 9, 10] rfl rfl (by decide) (fun _ => rfl) rfl (Nat.le_of_ble_eq_true rfl) dX6_spoil_85 (fun r_11 u9 h => ?_)
        obtain ⟨vg_12, vc_13⟩ := u9
        refine z_w (w' := wCE_gc G a vg_12 vc_13) rfl ?_
        refine z_isub F dX6_spoil_88 ?_
        refine z_aload_n F dX6_spoil_89 rfl 2 rfl ?_
        refine z_iload F dX6_spoil_90 0 rfl ?_
        refine z_iload_n F dX6_spoil_92 rfl 5 rfl ?_
        refine z_callVi (fun u9 => wCE_gc G a u9.1 u9.2) F (mX6_echoAlone G a vg_12 vc_13 r_6 x3 _ h) gX6_spoil_X6_echoAlone rfl hdX6_echoAlone ⟨rfl, rfl, Nat.le_of_ble_eq_true rfl, Nat.le_of_ble_eq_true rfl, Nat.le_of_ble_eq_true rfl, Nat.le_of_ble_eq_true rfl⟩ 0 rfl rfl [0, 1, 2, 3, 4, 5, 6, 7, 8, 9, 10] [] [0, 1, 2, 3, 4, 5, 6, 7, 8, 9, 10] rfl rfl (by decide) (fun _ => rfl) rfl (Nat.le_of_ble_eq_true rfl) dX6_spoil_93 (fun r_14 u9 h => ?_)
        obtain ⟨vg_15, vc_16⟩ := u9
        refine z_w (w' := wCE_gc G a vg_15 vc_16) rfl ?_
        refine z_isub F dX6_spoil_96 ?_
        refine z_iadd F dX6_spoil_97 ?_
        refine z_topi (fun x4_17 e9 => ?_)
        have h := h x4_17 e9
        refine z_istore [(4, .int x4_17), (7, .int r_6), (6, .int r_4), (0, .ref (a 0)), (1, .int x1), (2, .int x2), (3, .int x3), (5, .int x5)] F dX6_spoil_98 (by decide) rfl ?_
        obtain ⟨x5_18, e9⟩ : ∃ z : Int32, z = x5 + 1 := ⟨_, rfl⟩
        have h := h x5_18 e9
        refine z_iinc (v := x5_18) [(5, .int x5_18), (4, .int x4_17), (7, .int r_6), (6, .int r_4), (0, .ref (a 0)), (1, .int x1), (2, .int x2), (3, .int x3)] F dX6_spoil_100 7 rfl (by rw [e9]; rfl) (by decide) rfl ?_
        refine z_goto 39 F dX6_spoil_103 (by decide) ?_
        exact z_lv [4, 5, 6, 7, 1, 0] rfl (ih39 vg_15 vc_16 x1 x2 x3 x4_17 x5_18 h)
  unfold wpX6_spoil at h
  refine z_iload_n F dX6_spoil_0 rfl 1 rfl ?_
  refine z_callSi (fun _ => wCE_gc G a vg vc) F (mX6_isDress G p1 _ h) gX6_spoil_X6_isDress rfl hdX6_isDress ⟨rfl, rfl, Nat.le_of_ble_eq_true rfl, Nat.le_of_ble_eq_true rfl, Nat.le_of_ble_eq_true rfl, Nat.le_of_ble_eq_true rfl⟩ [] [0, 1, 2, 3, 4, 5, 6, 7, 8, 9, 10] [0, 1, 2, 3, 4, 5, 6, 7, 8, 9, 10] rfl rfl (by decide) (fun _ => rfl) rfl (Nat.le_of_ble_eq_true rfl) dX6_spoil_1 (fun r_1 u9 h => ?_)
  refine z_if_eq 19 F dX6_spoil_4 (by decide) (fun c9 => ?_) (fun c9 => ?_)
  · have h := h.1 c9
    refine z_iconst (v := -1) F dX6_spoil_19 rfl ?_
    exact hret (-1 : Int32) (vg, vc) _ _ h dX6_spoil_20
  · have h := h.2 c9
    refine z_iload_n F dX6_spoil_7 rfl 2 rfl ?_
    refine z_callSi (fun _ => wCE_gc G a vg vc) F (mX6_isDress G p2 _ h) gX6_spoil_X6_isDress rfl hdX6_isDress ⟨rfl, rfl, Nat.le_of_ble_eq_true rfl, Nat.le_of_ble_eq_true rfl, Nat.le_of_ble_eq_true rfl, Nat.le_of_ble_eq_true rfl⟩ [] [0, 1, 2, 3, 4, 5, 6, 7, 8, 9, 10] [0, 1, 2, 3, 4, 5, 6, 7, 8, 9, 10] rfl rfl (by decide) (fun _ => rfl) rfl (Nat.le_of_ble_eq_true rfl) dX6_spoil_8 (fun r_2 u9 h => ?_)
    refine z_if_eq 19 F dX6_spoil_11 (by decide) (fun c9 => ?_) (fun c9 => ?_)
    · have h := h.1 c9
      refine z_iconst (v := -1) F dX6_spoil_19 rfl ?_
      exact hret (-1 : Int32) (vg, vc) _ _ h dX6_spoil_20
    · have h := h.2 c9
      refine z_iload_n F dX6_spoil_14 rfl 1 rfl ?_
      refine z_iload_n F dX6_spoil_15 rfl 2 rfl ?_
      refine z_icmp_ne 21 F dX6_spoil_16 (by decide) (fun c9 => ?_) (fun c9 => ?_)
      · have h := h.1 c9
        refine z_iload_n F dX6_spoil_21 rfl 3 rfl ?_
        refine z_callSi (fun _ => wCE_gc G a vg vc) F (mX6_isAhead G p3 _ h) gX6_spoil_X6_isAhead rfl hdX6_isAhead ⟨rfl, rfl, Nat.le_of_ble_eq_true rfl, Nat.le_of_ble_eq_true rfl, Nat.le_of_ble_eq_true rfl, Nat.le_of_ble_eq_true rfl⟩ [] [0, 1, 2, 3, 4, 5, 6, 7, 8, 9, 10] [0, 1, 2, 3, 4, 5, 6, 7, 8, 9, 10] rfl rfl (by decide) (fun _ => rfl) rfl (Nat.le_of_ble_eq_true rfl) dX6_spoil_22 (fun r_3 u9 h => ?_)
        refine z_if_ne 31 F dX6_spoil_25 (by decide) (fun c9 => ?_) (fun c9 => ?_)
        · have h := h.1 c9
          refine z_sipush (v := 3000) F dX6_spoil_31 rfl ?_
          refine z_istore [(4, .int (3000 : Int32)), (0, .ref (a 0)), (1, .int p1), (2, .int p2), (3, .int p3)] F dX6_spoil_34 (by decide) rfl ?_
          refine z_iconst (v := 0) F dX6_spoil_36 rfl ?_
          refine z_istore [(5, .int (0 : Int32)), (4, .int (3000 : Int32)), (0, .ref (a 0)), (1, .int p1), (2, .int p2), (3, .int p3)] F dX6_spoil_37 (by decide) rfl ?_
          obtain ⟨n9, h⟩ := h
          exact z_lv [2, 3, 4, 5, 1, 0] rfl (t39 n9 vg vc p1 p2 p3 (3000 : Int32) (0 : Int32) h)
        · have h := h.2 c9
          refine z_bipush (v := -2) F dX6_spoil_28 rfl ?_
          exact hret (-2 : Int32) (vg, vc) _ _ h dX6_spoil_30
      · have h := h.2 c9
        refine z_iconst (v := -1) F dX6_spoil_19 rfl ?_
        exact hret (-1 : Int32) (vg, vc) _ _ h dX6_spoil_20
abbrev rmX6_seen : Room := { frames := 2, cells := 0, slots := 0, locals := 42 }
set_option maxRecDepth 100000 in
set_option maxHeartbeats 4000000 in
theorem mX6_seen (G : ZG) (a : Nat → Nat) (vg : Gr) (p1 : Int32) (p2 : Int32) (Q : Int32 → Gr → Prop) (h : wpX6_seen vg p1 p2 Q) : ZMi G yX6_seen wsX6_seen rmX6_seen [.ref (a 0), .int p1, .int p2] (wCE_g G a vg) (fun vg : Gr => wCE_g G a vg) (Q) := by
  refine z_ofi (cc := cX6_seen) (N := 3) (lv := [(0, .ref (a 0)), (1, .int p1), (2, .int p2)]) (by decide) rfl (Nat.le_of_ble_eq_true rfl) rfl (fun E F hret => ?_)
  have F : ZF E 3 cX6_seen RX6 wsX6_seen rmX6_seen G := F
  have f0 : ZW E (.fieldLink RX6 12 "ColourEcho" "gorge" "LColourEcho$Gorge;") := F.at 1 rfl
  have f1 : ZW E (.fieldLink RX6 197 "ColourEcho$Gorge" "sights" "I") := F.at 2 rfl
  have f2 : ZW E (.fieldLink RX6 200 "ColourEcho$Gorge" "sightDays" "[I") := F.at 3 rfl
  have f3 : ZW E (.fieldLink RX6 203 "ColourEcho$Gorge" "sightAmounts" "[I") := F.at 4 rfl
  have iX3 : ∀ x ∈ u_ws RX3 TX3 13, x ∈ wsX6_seen := fun _ h => List.mem_cons_of_mem _ (List.mem_append_right _ h)
  have iX6 : ∀ x ∈ u_ws RX6 TX6 11, x ∈ wsX6_seen := fun _ h => List.mem_cons_of_mem _ (List.mem_append_left _ (List.mem_append_right _ h))
  unfold wpX6_seen at h
  refine z_iload_n F dX6_seen_0 rfl 1 rfl ?_
  refine z_callSi (fun _ => wCE_g G a vg) F (mX6_isAhead G p1 _ h) gX6_seen_X6_isAhead rfl hdX6_isAhead ⟨rfl, rfl, Nat.le_of_ble_eq_true rfl, Nat.le_of_ble_eq_true rfl, Nat.le_of_ble_eq_true rfl, Nat.le_of_ble_eq_true rfl⟩ [] [0, 1, 2, 3, 4, 5, 6, 7, 8] [0, 1, 2, 3, 4, 5, 6, 7, 8] rfl rfl (by decide) (fun _ => rfl) rfl (Nat.le_of_ble_eq_true rfl) dX6_seen_1 (fun r_1 u9 h => ?_)
  refine z_if_eq 14 F dX6_seen_4 (by decide) (fun c9 => ?_) (fun c9 => ?_)
  · have h := h.1 c9
    refine z_bipush (v := -2) F dX6_seen_14 rfl ?_
    exact hret (-2 : Int32) vg _ _ h dX6_seen_16
  · have h := h.2 c9
    refine z_iload_n F dX6_seen_7 rfl 2 rfl ?_
    refine z_callSi (fun _ => wCE_g G a vg) F (mX6_isAmount G p2 _ h) gX6_seen_X6_isAmount rfl hdX6_isAmount ⟨rfl, rfl, Nat.le_of_ble_eq_true rfl, Nat.le_of_ble_eq_true rfl, Nat.le_of_ble_eq_true rfl, Nat.le_of_ble_eq_true rfl⟩ [] [0, 1, 2, 3, 4, 5, 6, 7, 8] [0, 1, 2, 3, 4, 5, 6, 7, 8] rfl rfl (by decide) (fun _ => rfl) rfl (Nat.le_of_ble_eq_true rfl) dX6_seen_8 (fun r_2 u9 h => ?_)
    refine z_if_ne 17 F dX6_seen_11 (by decide) (fun c9 => ?_) (fun c9 => ?_)
    · have h := h.1 c9
      refine z_aload_n F dX6_seen_17 rfl 0 rfl ?_
      refine z_get (ci := 6) F iX6 0 rfl rfl 0 (by decide) f0 rfl rfl dX6_seen_18 ?_
      refine z_get (ci := 3) F iX3 1 rfl rfl 7 (by decide) f1 rfl rfl dX6_seen_21 ?_
      refine z_bipush (v := 8) F dX6_seen_24 rfl ?_
      refine z_icmp_lt 32 F dX6_seen_26 (by decide) (fun c9 => ?_) (fun c9 => ?_)
      · have h := h.1 c9
        refine z_aload_n F dX6_seen_32 rfl 0 rfl ?_
        refine z_get (ci := 6) F iX6 0 rfl rfl 0 (by decide) f0 rfl rfl dX6_seen_33 ?_
        refine z_get (ci := 3) F iX3 1 rfl rfl 5 (by decide) f2 rfl rfl dX6_seen_36 ?_
        refine z_aload_n F dX6_seen_39 rfl 0 rfl ?_
        refine z_get (ci := 6) F iX6 0 rfl rfl 0 (by decide) f0 rfl rfl dX6_seen_40 ?_
        refine z_get (ci := 3) F iX3 1 rfl rfl 7 (by decide) f1 rfl rfl dX6_seen_43 ?_
        refine z_iload_n F dX6_seen_46 rfl 1 rfl ?_
        have h9 := h.1
        have h := h.2
        refine z_iast (wCE_g G a (Gr_s_sightDays vg (upd (Gr_sightDays vg) ((Gr_sights vg)).toNatClampNeg p1))) F 7 rfl h9 rfl dX6_seen_47 ?_
        refine z_aload_n F dX6_seen_48 rfl 0 rfl ?_
        refine z_get (ci := 6) F iX6 0 rfl rfl 0 (by decide) f0 rfl rfl dX6_seen_49 ?_
        refine z_get (ci := 3) F iX3 1 rfl rfl 6 (by decide) f3 rfl rfl dX6_seen_52 ?_
        refine z_aload_n F dX6_seen_55 rfl 0 rfl ?_
        refine z_get (ci := 6) F iX6 0 rfl rfl 0 (by decide) f0 rfl rfl dX6_seen_56 ?_
        refine z_get (ci := 3) (v := .int (Gr_sights vg)) F iX3 1 rfl rfl 7 (by decide) f1 rfl rfl dX6_seen_59 ?_
        refine z_iload_n F dX6_seen_62 rfl 2 rfl ?_
        have h9 := h.1
        have h := h.2
        refine z_iast (f := (Gr_sightAmounts vg)) (wCE_g G a (Gr_s_sightAmounts (Gr_s_sightDays vg (upd (Gr_sightDays vg) ((Gr_sights vg)).toNatClampNeg p1)) (upd (Gr_sightAmounts vg) ((Gr_sights vg)).toNatClampNeg p2))) F 8 rfl h9 rfl dX6_seen_63 ?_
        refine z_aload_n F dX6_seen_64 rfl 0 rfl ?_
        refine z_get (ci := 6) F iX6 0 rfl rfl 0 (by decide) f0 rfl rfl dX6_seen_65 ?_
        refine z_dup F dX6_seen_68 rfl ?_
        refine z_get (ci := 3) (v := .int (Gr_sights vg)) F iX3 1 rfl rfl 7 (by decide) f1 rfl rfl dX6_seen_69 ?_
        refine z_iconst (v := 1) F dX6_seen_72 rfl ?_
        refine z_iadd F dX6_seen_73 ?_
        refine z_put (ci := 3) (ty := .int) (wCE_g G a (Gr_s_sights (Gr_s_sightAmounts (Gr_s_sightDays vg (upd (Gr_sightDays vg) ((Gr_sights vg)).toNatClampNeg p1)) (upd (Gr_sightAmounts vg) ((Gr_sights vg)).toNatClampNeg p2)) ((Gr_sights vg) + (1 : Int32)))) F iX3 tyX3 tyX3_ok nmX3 1 rfl rfl 7 (by decide) f1 rfl rfl rfl rfl rfl (Nat.le_of_ble_eq_true rfl) rfl dX6_seen_74 ?_
        refine z_aload_n F dX6_seen_77 rfl 0 rfl ?_
        refine z_get (ci := 6) F iX6 0 rfl rfl 0 (by decide) f0 rfl rfl dX6_seen_78 ?_
        refine z_get (ci := 3) (v := .int ((Gr_sights vg) + (1 : Int32))) F iX3 1 rfl rfl 7 (by decide) f1 rfl rfl dX6_seen_81 ?_
        exact hret ((Gr_sights vg) + (1 : Int32)) (Gr_s_sights (Gr_s_sightAmounts (Gr_s_sightDays vg (upd (Gr_sightDays vg) ((Gr_sights vg)).toNatClampNeg p1)) (upd (Gr_sightAmounts vg) ((Gr_sights vg)).toNatClampNeg p2)) ((Gr_sights vg) + (1 : Int32))) _ _ h dX6_seen_84
      · have h := h.2 c9
        refine z_bipush (v := -4) F dX6_seen_29 rfl ?_
        exact hret (-4 : Int32) vg _ _ h dX6_seen_31
    · have h := h.2 c9
      refine z_bipush (v := -2) F dX6_seen_14 rfl ?_
      exact hret (-2 : Int32) vg _ _ h dX6_seen_16
abbrev rmX6_forget : Room := { frames := 0, cells := 0, slots := 0, locals := 0 }
set_option maxRecDepth 100000 in
set_option maxHeartbeats 4000000 in
theorem mX6_forget (G : ZG) (a : Nat → Nat) (vg : Gr) (Q : Int32 → Gr → Prop) (h : wpX6_forget vg Q) : ZMi G yX6_forget wsX6_forget rmX6_forget [.ref (a 0)] (wCE_g G a vg) (fun vg : Gr => wCE_g G a vg) (Q) := by
  refine z_ofi (cc := cX6_forget) (N := 2) (lv := [(0, .ref (a 0))]) (by decide) rfl (Nat.le_of_ble_eq_true rfl) rfl (fun E F hret => ?_)
  have F : ZF E 2 cX6_forget RX6 wsX6_forget rmX6_forget G := F
  have f0 : ZW E (.fieldLink RX6 12 "ColourEcho" "gorge" "LColourEcho$Gorge;") := F.at 1 rfl
  have f1 : ZW E (.fieldLink RX6 197 "ColourEcho$Gorge" "sights" "I") := F.at 2 rfl
  have iX3 : ∀ x ∈ u_ws RX3 TX3 13, x ∈ wsX6_forget := fun _ h => List.mem_cons_of_mem _ (List.mem_append_right _ h)
  have iX6 : ∀ x ∈ u_ws RX6 TX6 11, x ∈ wsX6_forget := fun _ h => List.mem_cons_of_mem _ (List.mem_append_left _ (List.mem_append_right _ h))
  unfold wpX6_forget at h
  refine z_aload_n F dX6_forget_0 rfl 0 rfl ?_
  refine z_get (ci := 6) F iX6 0 rfl rfl 0 (by decide) f0 rfl rfl dX6_forget_1 ?_
  refine z_get (ci := 3) F iX3 1 rfl rfl 7 (by decide) f1 rfl rfl dX6_forget_4 ?_
  refine z_topi (fun x1_1 e9 => ?_)
  have h := h x1_1 e9
  refine z_istore_n [(1, .int x1_1), (0, .ref (a 0))] F dX6_forget_7 rfl (by decide) rfl ?_
  refine z_aload_n F dX6_forget_8 rfl 1 rfl ?_
  refine z_get (ci := 6) F iX6 0 rfl rfl 0 (by decide) f0 rfl rfl dX6_forget_9 ?_
  refine z_iconst (v := 0) F dX6_forget_12 rfl ?_
  refine z_put (ci := 3) (ty := .int) (wCE_g G a (Gr_s_sights vg (0 : Int32))) F iX3 tyX3 tyX3_ok nmX3 1 rfl rfl 7 (by decide) f1 rfl rfl rfl rfl rfl (Nat.le_of_ble_eq_true rfl) rfl dX6_forget_13 ?_
  refine z_iload_n F dX6_forget_16 rfl 0 rfl ?_
  exact hret x1_1 (Gr_s_sights vg (0 : Int32)) _ _ h dX6_forget_17
abbrev rmX6_shown : Room := { frames := 5, cells := 0, slots := 0, locals := 118 }
set_option maxRecDepth 100000 in
set_option maxHeartbeats 4000000 in
theorem mX6_shown (G : ZG) (a : Nat → Nat) (vg : Gr) (vc : Co) (vu : Gu) (p1 : Int32) (Q : Int32 → Gr → Co → Gu → Prop) (h : wpX6_shown vg vc vu p1 Q) : ZMi G yX6_shown wsX6_shown rmX6_shown [.ref (a 0), .int p1] (wCE_gcu G a vg vc vu) (fun u9 : Gr × Co × Gu => wCE_gcu G a u9.1 u9.2.1 u9.2.2) (fun r u9 => Q r u9.1 u9.2.1 u9.2.2) := by
  refine z_ofi (cc := cX6_shown) (N := 2) (lv := [(0, .ref (a 0)), (1, .int p1)]) (by decide) rfl (Nat.le_of_ble_eq_true rfl) rfl (fun E F hret => ?_)
  have F : ZF E 2 cX6_shown RX6 wsX6_shown rmX6_shown G := F
  have f0 : ZW E (.fieldLink RX6 43 "ColourEcho" "guesses" "LColourEcho$Guesses;") := F.at 1 rfl
  have f1 : ZW E (.fieldLink RX6 12 "ColourEcho" "gorge" "LColourEcho$Gorge;") := F.at 2 rfl
  have f2 : ZW E (.fieldLink RX6 36 "ColourEcho" "course" "LColourEcho$Course;") := F.at 3 rfl
  have f3 : ZW E (.fieldLink RX6 210 "ColourEcho$Guesses" "count" "I") := F.at 4 rfl
  have f4 : ZW E (.fieldLink RX6 211 "ColourEcho$Guesses" "fitting" "[I") := F.at 5 rfl
  have iX4 : ∀ x ∈ u_ws RX4 TX4 4, x ∈ wsX6_shown := fun _ h => List.mem_cons_of_mem _ (List.mem_append_left _ (List.mem_append_left _ (List.mem_append_right _ h)))
  have iX6 : ∀ x ∈ u_ws RX6 TX6 11, x ∈ wsX6_shown := fun _ h => List.mem_cons_of_mem _ (List.mem_append_left _ (List.mem_append_left _ (List.mem_append_left _ (List.mem_append_right _ h))))
  unfold wpX6_shown at h
  refine z_aload_n F dX6_shown_0 rfl 0 rfl ?_
  refine z_get (ci := 6) F iX6 0 rfl rfl 5 (by decide) f0 rfl rfl dX6_shown_1 ?_
  refine z_aload_n F dX6_shown_4 rfl 0 rfl ?_
  refine z_get (ci := 6) F iX6 0 rfl rfl 0 (by decide) f1 rfl rfl dX6_shown_5 ?_
  refine z_aload_n F dX6_shown_8 rfl 0 rfl ?_
  refine z_get (ci := 6) F iX6 0 rfl rfl 4 (by decide) f2 rfl rfl dX6_shown_9 ?_
  refine z_callVv (fun u9 => wCE_gcu G a u9.2.1 u9.2.2 u9.1) F (mX4_gather G (fun k => a (30 + k)) (fun k => a (1 + k)) (fun k => a (28 + k)) vu vg vc _ h) gX6_shown_X4_gather rfl hdX4_gather ⟨rfl, rfl, Nat.le_of_ble_eq_true rfl, Nat.le_of_ble_eq_true rfl, Nat.le_of_ble_eq_true rfl, Nat.le_of_ble_eq_true rfl⟩ 11 rfl rfl [11, 12, 13, 14, 1, 2, 3, 4, 5, 6, 7, 8, 9, 10] [0] [0, 5, 6, 7, 8, 9, 10, 11, 12, 13, 14, 1, 2, 3, 4] rfl rfl (by decide) (fun _ => rfl) rfl (Nat.le_of_ble_eq_true rfl) dX6_shown_12 (fun u9 h => ?_)
  obtain ⟨vu_1, vg_2, vc_3⟩ := u9
  refine z_w (w' := wCE_gcu G a vg_2 vc_3 vu_1) rfl ?_
  refine z_iload_n F dX6_shown_15 rfl 1 rfl ?_
  refine z_iconst (v := -1) F dX6_shown_16 rfl ?_
  refine z_icmp_ne 28 F dX6_shown_17 (by decide) (fun c9 => ?_) (fun c9 => ?_)
  · have h := h.1 c9
    refine z_iload_n F dX6_shown_28 rfl 1 rfl ?_
    refine z_iconst (v := 0) F dX6_shown_29 rfl ?_
    refine z_aload_n F dX6_shown_30 rfl 0 rfl ?_
    refine z_get (ci := 6) F iX6 0 rfl rfl 5 (by decide) f0 rfl rfl dX6_shown_31 ?_
    refine z_get (ci := 4) F iX4 11 rfl rfl 3 (by decide) f3 rfl rfl dX6_shown_34 ?_
    refine z_iconst (v := 1) F dX6_shown_37 rfl ?_
    refine z_isub F dX6_shown_38 ?_
    refine z_callSi (fun _ => wCE_gcu G a vg_2 vc_3 vu_1) F (mX6_isWithin G p1 (0 : Int32) ((Gu_count vu_1) - (1 : Int32)) _ h) gX6_shown_X6_isWithin rfl hdX6_isWithin ⟨rfl, rfl, Nat.le_of_ble_eq_true rfl, Nat.le_of_ble_eq_true rfl, Nat.le_of_ble_eq_true rfl, Nat.le_of_ble_eq_true rfl⟩ [] [0, 1, 2, 3, 4, 5, 6, 7, 8, 9, 10, 11, 12, 13, 14] [0, 1, 2, 3, 4, 5, 6, 7, 8, 9, 10, 11, 12, 13, 14] rfl rfl (by decide) (fun _ => rfl) rfl (Nat.le_of_ble_eq_true rfl) dX6_shown_39 (fun r_4 u9 h => ?_)
    refine z_if_eq 57 F dX6_shown_42 (by decide) (fun c9 => ?_) (fun c9 => ?_)
    · have h := h.1 c9
      refine z_bipush (v := -6) F dX6_shown_57 rfl ?_
      exact hret (-6 : Int32) (vg_2, vc_3, vu_1) _ _ h dX6_shown_59
    · have h := h.2 c9
      refine z_aload_n F dX6_shown_45 rfl 0 rfl ?_
      refine z_get (ci := 6) F iX6 0 rfl rfl 5 (by decide) f0 rfl rfl dX6_shown_46 ?_
      refine z_get (ci := 4) F iX4 11 rfl rfl 1 (by decide) f4 rfl rfl dX6_shown_49 ?_
      refine z_iload_n F dX6_shown_52 rfl 1 rfl ?_
      have h9 := h.1
      have h := h.2
      refine z_iald F 13 rfl h9 dX6_shown_53 ?_
      refine z_goto 59 F dX6_shown_54 (by decide) ?_
      exact hret ((Gu_fitting vu_1) (p1).toNatClampNeg) (vg_2, vc_3, vu_1) _ _ h dX6_shown_59
  · have h := h.2 c9
    refine z_aload_n F dX6_shown_20 rfl 0 rfl ?_
    refine z_get (ci := 6) F iX6 0 rfl rfl 5 (by decide) f0 rfl rfl dX6_shown_21 ?_
    refine z_get (ci := 4) F iX4 11 rfl rfl 3 (by decide) f3 rfl rfl dX6_shown_24 ?_
    exact hret (Gu_count vu_1) (vg_2, vc_3, vu_1) _ _ h dX6_shown_27
abbrev rmX6_look : Room := { frames := 5, cells := 0, slots := 0, locals := 118 }
set_option maxRecDepth 100000 in
set_option maxHeartbeats 4000000 in
theorem mX6_look (G : ZG) (a : Nat → Nat) (vg : Gr) (vc : Co) (vu : Gu) (p1 : Int32) (Q : Int32 → Gr → Co → Gu → Prop) (h : wpX6_look vg vc vu p1 Q) : ZMi G yX6_look wsX6_look rmX6_look [.ref (a 0), .int p1] (wCE_gcu G a vg vc vu) (fun u9 : Gr × Co × Gu => wCE_gcu G a u9.1 u9.2.1 u9.2.2) (fun r u9 => Q r u9.1 u9.2.1 u9.2.2) := by
  refine z_ofi (cc := cX6_look) (N := 6) (lv := [(0, .ref (a 0)), (1, .int p1)]) (by decide) rfl (Nat.le_of_ble_eq_true rfl) rfl (fun E F hret => ?_)
  have F : ZF E 6 cX6_look RX6 wsX6_look rmX6_look G := F
  have f0 : ZW E (.fieldLink RX6 43 "ColourEcho" "guesses" "LColourEcho$Guesses;") := F.at 1 rfl
  have f1 : ZW E (.fieldLink RX6 12 "ColourEcho" "gorge" "LColourEcho$Gorge;") := F.at 2 rfl
  have f2 : ZW E (.fieldLink RX6 36 "ColourEcho" "course" "LColourEcho$Course;") := F.at 3 rfl
  have f3 : ZW E (.fieldLink RX6 210 "ColourEcho$Guesses" "count" "I") := F.at 4 rfl
  have iX4 : ∀ x ∈ u_ws RX4 TX4 4, x ∈ wsX6_look := fun _ h => List.mem_cons_of_mem _ (List.mem_append_left _ (List.mem_append_left _ (List.mem_append_right _ h)))
  have iX6 : ∀ x ∈ u_ws RX6 TX6 11, x ∈ wsX6_look := fun _ h => List.mem_cons_of_mem _ (List.mem_append_left _ (List.mem_append_left _ (List.mem_append_left _ (List.mem_append_right _ h))))
  have t84 : ∀ (K54 : Gr → Co → Gu → Int32 → Int32 → Int32 → Int32 → Prop) (ih54 : ∀ (vg : Gr) (vc : Co) (vu : Gu) (x1 : Int32) (x2 : Int32) (x3 : Int32) (x4 : Int32), K54 vg vc vu x1 x2 x3 x4 → Z E 6 0 0 (wCE_gcu G a vg vc vu) [(0, .ref (a 0)), (1, .int x1), (2, .int x2), (3, .int x3), (4, .int x4)] 54 []) (vg : Gr) (vc : Co) (vu : Gu) (x1 : Int32) (x2 : Int32) (x3 : Int32) (x4 : Int32), wpX6_look_B84 Q K54 vg vc vu x1 x2 x3 x4 → Z E 6 0 0 (wCE_gcu G a vg vc vu) [(0, .ref (a 0)), (1, .int x1), (2, .int x2), (3, .int x3), (4, .int x4)] 84 [] := by
    intro K54 ih54 vg vc vu x1 x2 x3 x4 h
    unfold wpX6_look_B84 at h
    obtain ⟨x4_9, e9⟩ : ∃ z : Int32, z = x4 + 1 := ⟨_, rfl⟩
    have h := h x4_9 e9
    refine z_iinc (v := x4_9) [(4, .int x4_9), (0, .ref (a 0)), (1, .int x1), (2, .int x2), (3, .int x3)] F dX6_look_84 4 rfl (by rw [e9]; rfl) (by decide) rfl ?_
    refine z_goto 54 F dX6_look_87 (by decide) ?_
    exact z_lv [1, 2, 3, 4, 0] rfl (ih54 vg vc vu x1 x2 x3 x4_9 h)
  have t54 : ∀ (n : Nat) (vg : Gr) (vc : Co) (vu : Gu) (x1 : Int32) (x2 : Int32) (x3 : Int32) (x4 : Int32), wpX6_look_L54 Q n vg vc vu x1 x2 x3 x4 → Z E 6 0 0 (wCE_gcu G a vg vc vu) [(0, .ref (a 0)), (1, .int x1), (2, .int x2), (3, .int x3), (4, .int x4)] 54 [] := by
    intro n
    induction n with
    | zero => intro vg vc vu x1 x2 x3 x4 h; exact h.elim
    | succ n ihQ =>
      have ih54 : ∀ (vg : Gr) (vc : Co) (vu : Gu) (x1 : Int32) (x2 : Int32) (x3 : Int32) (x4 : Int32), wpX6_look_L54 Q n vg vc vu x1 x2 x3 x4 → Z E 6 0 0 (wCE_gcu G a vg vc vu) [(0, .ref (a 0)), (1, .int x1), (2, .int x2), (3, .int x3), (4, .int x4)] 54 [] := ihQ
      intro vg vc vu x1 x2 x3 x4 h
      have h : wpX6_look_H54 Q (wpX6_look_L54 Q n) vg vc vu x1 x2 x3 x4 := h
      generalize wpX6_look_L54 Q n = K54 at h ih54
      clear ihQ
      unfold wpX6_look_H54 at h
      refine z_iload F dX6_look_54 4 rfl ?_
      refine z_bipush (v := 60) F dX6_look_56 rfl ?_
      refine z_icmp_gt 90 F dX6_look_58 (by decide) (fun c9 => ?_) (fun c9 => ?_)
      · have h := h.1 c9
        refine z_iload_n F dX6_look_90 rfl 1 rfl ?_
        refine z_if_ne 98 F dX6_look_91 (by decide) (fun c9 => ?_) (fun c9 => ?_)
        · have h := h.1 c9
          refine z_iload_n F dX6_look_98 rfl 3 rfl ?_
          exact hret x3 (vg, vc, vu) _ _ h dX6_look_99
        · have h := h.2 c9
          refine z_iload_n F dX6_look_94 rfl 2 rfl ?_
          refine z_goto 99 F dX6_look_95 (by decide) ?_
          exact hret x2 (vg, vc, vu) _ _ h dX6_look_99
      · have h := h.2 c9
        refine z_aload_n F dX6_look_61 rfl 0 rfl ?_
        refine z_get (ci := 6) F iX6 0 rfl rfl 5 (by decide) f0 rfl rfl dX6_look_62 ?_
        refine z_iload F dX6_look_65 4 rfl ?_
        refine z_callVi (fun u9 => wCE_gcu G a vg vc u9) F (mX4_mostLeft G (fun k => a (30 + k)) vu x4 _ h) gX6_look_X4_mostLeft rfl hdX4_mostLeft ⟨rfl, rfl, Nat.le_of_ble_eq_true rfl, Nat.le_of_ble_eq_true rfl, Nat.le_of_ble_eq_true rfl, Nat.le_of_ble_eq_true rfl⟩ 11 rfl rfl [11, 12, 13, 14] [0, 1, 2, 3, 4, 5, 6, 7, 8, 9, 10] [0, 1, 2, 3, 4, 5, 6, 7, 8, 9, 10, 11, 12, 13, 14] rfl rfl (by decide) (fun _ => rfl) rfl (Nat.le_of_ble_eq_true rfl) dX6_look_67 (fun r_7 vu_8 h => ?_)
        refine z_istore [(5, .int r_7), (0, .ref (a 0)), (1, .int x1), (2, .int x2), (3, .int x3), (4, .int x4)] F dX6_look_70 (by decide) rfl ?_
        refine z_iload F dX6_look_72 0 rfl ?_
        refine z_iload_n F dX6_look_74 rfl 4 rfl ?_
        refine z_icmp_ge 84 F dX6_look_75 (by decide) (fun c9 => ?_) (fun c9 => ?_)
        · have h := h.1 c9
          exact z_lv [1, 2, 3, 4, 5] rfl (t84 K54 ih54 vg vc vu_8 x1 x2 x3 x4 h)
        · have h := h.2 c9
          refine z_iload F dX6_look_78 0 rfl ?_
          refine z_istore_n [(3, .int r_7), (5, .int r_7), (0, .ref (a 0)), (1, .int x1), (2, .int x2), (4, .int x4)] F dX6_look_80 rfl (by decide) rfl ?_
          refine z_iload F dX6_look_81 5 rfl ?_
          refine z_istore_n [(2, .int x4), (3, .int r_7), (5, .int r_7), (0, .ref (a 0)), (1, .int x1), (4, .int x4)] F dX6_look_83 rfl (by decide) rfl ?_
          exact z_lv [3, 4, 0, 1, 5] rfl (t84 K54 ih54 vg vc vu_8 x1 x4 r_7 x4 h)
  unfold wpX6_look at h
  refine z_iload_n F dX6_look_0 rfl 1 rfl ?_
  refine z_iconst (v := 0) F dX6_look_1 rfl ?_
  refine z_iconst (v := 1) F dX6_look_2 rfl ?_
  refine z_callSi (fun _ => wCE_gcu G a vg vc vu) F (mX6_isWithin G p1 (0 : Int32) (1 : Int32) _ h) gX6_look_X6_isWithin rfl hdX6_isWithin ⟨rfl, rfl, Nat.le_of_ble_eq_true rfl, Nat.le_of_ble_eq_true rfl, Nat.le_of_ble_eq_true rfl, Nat.le_of_ble_eq_true rfl⟩ [] [0, 1, 2, 3, 4, 5, 6, 7, 8, 9, 10, 11, 12, 13, 14] [0, 1, 2, 3, 4, 5, 6, 7, 8, 9, 10, 11, 12, 13, 14] rfl rfl (by decide) (fun _ => rfl) rfl (Nat.le_of_ble_eq_true rfl) dX6_look_3 (fun r_1 u9 h => ?_)
  refine z_if_ne 12 F dX6_look_6 (by decide) (fun c9 => ?_) (fun c9 => ?_)
  · have h := h.1 c9
    refine z_aload_n F dX6_look_12 rfl 0 rfl ?_
    refine z_get (ci := 6) F iX6 0 rfl rfl 5 (by decide) f0 rfl rfl dX6_look_13 ?_
    refine z_aload_n F dX6_look_16 rfl 0 rfl ?_
    refine z_get (ci := 6) F iX6 0 rfl rfl 0 (by decide) f1 rfl rfl dX6_look_17 ?_
    refine z_aload_n F dX6_look_20 rfl 0 rfl ?_
    refine z_get (ci := 6) F iX6 0 rfl rfl 4 (by decide) f2 rfl rfl dX6_look_21 ?_
    refine z_callVv (fun u9 => wCE_gcu G a u9.2.1 u9.2.2 u9.1) F (mX4_gather G (fun k => a (30 + k)) (fun k => a (1 + k)) (fun k => a (28 + k)) vu vg vc _ h) gX6_look_X4_gather rfl hdX4_gather ⟨rfl, rfl, Nat.le_of_ble_eq_true rfl, Nat.le_of_ble_eq_true rfl, Nat.le_of_ble_eq_true rfl, Nat.le_of_ble_eq_true rfl⟩ 11 rfl rfl [11, 12, 13, 14, 1, 2, 3, 4, 5, 6, 7, 8, 9, 10] [0] [0, 5, 6, 7, 8, 9, 10, 11, 12, 13, 14, 1, 2, 3, 4] rfl rfl (by decide) (fun _ => rfl) rfl (Nat.le_of_ble_eq_true rfl) dX6_look_24 (fun u9 h => ?_)
    obtain ⟨vu_2, vg_3, vc_4⟩ := u9
    refine z_w (w' := wCE_gcu G a vg_3 vc_4 vu_2) rfl ?_
    refine z_aload_n F dX6_look_27 rfl 0 rfl ?_
    refine z_get (ci := 6) F iX6 0 rfl rfl 5 (by decide) f0 rfl rfl dX6_look_28 ?_
    refine z_get (ci := 4) F iX4 11 rfl rfl 3 (by decide) f3 rfl rfl dX6_look_31 ?_
    refine z_if_ne 40 F dX6_look_34 (by decide) (fun c9 => ?_) (fun c9 => ?_)
    · have h := h.1 c9
      refine z_iconst (v := 0) F dX6_look_40 rfl ?_
      refine z_istore_n [(2, .int (0 : Int32)), (0, .ref (a 0)), (1, .int p1)] F dX6_look_41 rfl (by decide) rfl ?_
      refine z_aload_n F dX6_look_42 rfl 1 rfl ?_
      refine z_get (ci := 6) F iX6 0 rfl rfl 5 (by decide) f0 rfl rfl dX6_look_43 ?_
      refine z_iconst (v := 0) F dX6_look_46 rfl ?_
      refine z_callVi (fun u9 => wCE_gcu G a vg_3 vc_4 u9) F (mX4_mostLeft G (fun k => a (30 + k)) vu_2 (0 : Int32) _ h) gX6_look_X4_mostLeft rfl hdX4_mostLeft ⟨rfl, rfl, Nat.le_of_ble_eq_true rfl, Nat.le_of_ble_eq_true rfl, Nat.le_of_ble_eq_true rfl, Nat.le_of_ble_eq_true rfl⟩ 11 rfl rfl [11, 12, 13, 14] [0, 1, 2, 3, 4, 5, 6, 7, 8, 9, 10] [0, 1, 2, 3, 4, 5, 6, 7, 8, 9, 10, 11, 12, 13, 14] rfl rfl (by decide) (fun _ => rfl) rfl (Nat.le_of_ble_eq_true rfl) dX6_look_47 (fun r_5 vu_6 h => ?_)
      refine z_istore_n [(3, .int r_5), (2, .int (0 : Int32)), (0, .ref (a 0)), (1, .int p1)] F dX6_look_50 rfl (by decide) rfl ?_
      refine z_iconst (v := 1) F dX6_look_51 rfl ?_
      refine z_istore [(4, .int (1 : Int32)), (3, .int r_5), (2, .int (0 : Int32)), (0, .ref (a 0)), (1, .int p1)] F dX6_look_52 (by decide) rfl ?_
      obtain ⟨n9, h⟩ := h
      exact z_lv [3, 4, 2, 1, 0] rfl (t54 n9 vg_3 vc_4 vu_6 p1 (0 : Int32) r_5 (1 : Int32) h)
    · have h := h.2 c9
      refine z_bipush (v := -6) F dX6_look_37 rfl ?_
      exact hret (-6 : Int32) (vg_3, vc_4, vu_2) _ _ h dX6_look_39
  · have h := h.2 c9
    refine z_bipush (v := -2) F dX6_look_9 rfl ?_
    exact hret (-2 : Int32) (vg, vc, vu) _ _ h dX6_look_11
abbrev rmX6_fogs : Room := { frames := 3, cells := 0, slots := 0, locals := 70 }
set_option maxRecDepth 100000 in
set_option maxHeartbeats 4000000 in
theorem mX6_fogs (G : ZG) (a : Nat → Nat) (vg : Gr) (vc : Co) (p1 : Int32) (p2 : Int32) (p3 : Int32) (p4 : Int32) (p5 : Int32) (p6 : Int32) (Q : Int64 → Gr → Co → Prop) (h : wpX6_fogs vg vc p1 p2 p3 p4 p5 p6 Q) : ZMl G yX6_fogs wsX6_fogs rmX6_fogs [.ref (a 0), .int p1, .int p2, .int p3, .int p4, .int p5, .int p6] (wCE_gc G a vg vc) (fun u9 : Gr × Co => wCE_gc G a u9.1 u9.2) (fun r u9 => Q r u9.1 u9.2) := by
  refine z_ofl (cc := cX6_fogs) (N := 15) (lv := [(0, .ref (a 0)), (1, .int p1), (2, .int p2), (3, .int p3), (4, .int p4), (5, .int p5), (6, .int p6)]) (by decide) rfl (Nat.le_of_ble_eq_true rfl) rfl (fun E F hret => ?_)
  have F : ZF E 15 cX6_fogs RX6 wsX6_fogs rmX6_fogs G := F
  have f0 : ZW E (.constantLong RX6 217 (-1000000000000000002)) := F.at 1 rfl
  have f1 : ZW E (.fieldLink RX6 36 "ColourEcho" "course" "LColourEcho$Course;") := F.at 2 rfl
  have f2 : ZW E (.fieldLink RX6 12 "ColourEcho" "gorge" "LColourEcho$Gorge;") := F.at 3 rfl
  have iX6 : ∀ x ∈ u_ws RX6 TX6 11, x ∈ wsX6_fogs := fun _ h => List.mem_cons_of_mem _ (List.mem_append_left _ (List.mem_append_left _ (List.mem_append_right _ h)))
  have t183 : ∀ (K102 : Gr → Co → Int32 → Int32 → Int32 → Int32 → Int32 → Int64 → Int32 → Prop) (ih102 : ∀ (vg : Gr) (vc : Co) (x2 : Int32) (x3 : Int32) (x4 : Int32) (x5 : Int32) (x6 : Int32) (x9 : Int64) (x11 : Int32), K102 vg vc x2 x3 x4 x5 x6 x9 x11 → Z E 15 0 0 (wCE_gc G a vg vc) [(0, .ref (a 0)), (2, .int x2), (3, .int x3), (4, .int x4), (5, .int x5), (6, .int x6), (9, .long x9), (11, .int x11)] 102 []) (vg : Gr) (vc : Co) (x2 : Int32) (x3 : Int32) (x4 : Int32) (x5 : Int32) (x6 : Int32) (x9 : Int64) (x11 : Int32), wpX6_fogs_B183 Q K102 vg vc x2 x3 x4 x5 x6 x9 x11 → Z E 15 0 0 (wCE_gc G a vg vc) [(0, .ref (a 0)), (2, .int x2), (3, .int x3), (4, .int x4), (5, .int x5), (6, .int x6), (9, .long x9), (11, .int x11)] 183 [] := by
    intro K102 ih102 vg vc x2 x3 x4 x5 x6 x9 x11 h
    unfold wpX6_fogs_B183 at h
    obtain ⟨x11_16, e9⟩ : ∃ z : Int32, z = x11 + 1 := ⟨_, rfl⟩
    have h := h x11_16 e9
    refine z_iinc (v := x11_16) [(11, .int x11_16), (0, .ref (a 0)), (2, .int x2), (3, .int x3), (4, .int x4), (5, .int x5), (6, .int x6), (9, .long x9)] F dX6_fogs_183 7 rfl (by rw [e9]; rfl) (by decide) rfl ?_
    refine z_goto 102 F dX6_fogs_186 (by decide) ?_
    exact z_lv [1, 2, 3, 4, 5, 6, 7, 0] rfl (ih102 vg vc x2 x3 x4 x5 x6 x9 x11_16 h)
  have t180 : ∀ (K102 : Gr → Co → Int32 → Int32 → Int32 → Int32 → Int32 → Int64 → Int32 → Prop) (ih102 : ∀ (vg : Gr) (vc : Co) (x2 : Int32) (x3 : Int32) (x4 : Int32) (x5 : Int32) (x6 : Int32) (x9 : Int64) (x11 : Int32), K102 vg vc x2 x3 x4 x5 x6 x9 x11 → Z E 15 0 0 (wCE_gc G a vg vc) [(0, .ref (a 0)), (2, .int x2), (3, .int x3), (4, .int x4), (5, .int x5), (6, .int x6), (9, .long x9), (11, .int x11)] 102 []) (vg : Gr) (vc : Co) (x2 : Int32) (x3 : Int32) (x4 : Int32) (x5 : Int32) (x6 : Int32) (x11 : Int32) (s0 : Int64) (s1 : Int64), wpX6_fogs_B180 Q K102 vg vc x2 x3 x4 x5 x6 x11 s0 s1 → Z E 15 0 0 (wCE_gc G a vg vc) [(0, .ref (a 0)), (2, .int x2), (3, .int x3), (4, .int x4), (5, .int x5), (6, .int x6), (11, .int x11)] 180 [.long s1, .long s0] := by
    intro K102 ih102 vg vc x2 x3 x4 x5 x6 x11 s0 s1 h
    unfold wpX6_fogs_B180 at h
    refine z_ladd F dX6_fogs_180 ?_
    refine z_topl (fun x9_17 e9 => ?_)
    have h := h x9_17 e9
    refine z_lstore [(9, .long x9_17), (0, .ref (a 0)), (2, .int x2), (3, .int x3), (4, .int x4), (5, .int x5), (6, .int x6), (11, .int x11)] F dX6_fogs_181 (by decide) rfl ?_
    exact z_lv [1, 2, 3, 4, 5, 6, 0, 7] rfl (t183 K102 ih102 vg vc x2 x3 x4 x5 x6 x9_17 x11 h)
  have t102 : ∀ (n : Nat) (vg : Gr) (vc : Co) (x2 : Int32) (x3 : Int32) (x4 : Int32) (x5 : Int32) (x6 : Int32) (x9 : Int64) (x11 : Int32), wpX6_fogs_L102 Q n vg vc x2 x3 x4 x5 x6 x9 x11 → Z E 15 0 0 (wCE_gc G a vg vc) [(0, .ref (a 0)), (2, .int x2), (3, .int x3), (4, .int x4), (5, .int x5), (6, .int x6), (9, .long x9), (11, .int x11)] 102 [] := by
    intro n
    induction n with
    | zero => intro vg vc x2 x3 x4 x5 x6 x9 x11 h; exact h.elim
    | succ n ihQ =>
      have ih102 : ∀ (vg : Gr) (vc : Co) (x2 : Int32) (x3 : Int32) (x4 : Int32) (x5 : Int32) (x6 : Int32) (x9 : Int64) (x11 : Int32), wpX6_fogs_L102 Q n vg vc x2 x3 x4 x5 x6 x9 x11 → Z E 15 0 0 (wCE_gc G a vg vc) [(0, .ref (a 0)), (2, .int x2), (3, .int x3), (4, .int x4), (5, .int x5), (6, .int x6), (9, .long x9), (11, .int x11)] 102 [] := ihQ
      intro vg vc x2 x3 x4 x5 x6 x9 x11 h
      have h : wpX6_fogs_H102 Q (wpX6_fogs_L102 Q n) vg vc x2 x3 x4 x5 x6 x9 x11 := h
      generalize wpX6_fogs_L102 Q n = K102 at h ih102
      clear ihQ
      unfold wpX6_fogs_H102 at h
      refine z_iload F dX6_fogs_102 7 rfl ?_
      refine z_iconst (v := 1) F dX6_fogs_104 rfl ?_
      refine z_iload_n F dX6_fogs_105 rfl 1 rfl ?_
      refine z_ishl F dX6_fogs_106 ?_
      refine z_icmp_ge 189 F dX6_fogs_107 (by decide) (fun c9 => ?_) (fun c9 => ?_)
      · have h := h.1 c9
        refine z_bipush (v := 10) F dX6_fogs_189 rfl ?_
        refine z_iload_n F dX6_fogs_191 rfl 1 rfl ?_
        refine z_callSl (fun _ => wCE_gc G a vg vc) F (mX6_power G (10 : Int32) x2 _ h) gX6_fogs_X6_power rfl hdX6_power ⟨rfl, rfl, Nat.le_of_ble_eq_true rfl, Nat.le_of_ble_eq_true rfl, Nat.le_of_ble_eq_true rfl, Nat.le_of_ble_eq_true rfl⟩ [] [0, 1, 2, 3, 4, 5, 6, 7, 8, 9, 10] [0, 1, 2, 3, 4, 5, 6, 7, 8, 9, 10] rfl rfl (by decide) (fun _ => rfl) rfl (Nat.le_of_ble_eq_true rfl) dX6_fogs_192 (fun r_9 u9 h => ?_)
        refine z_lstore [(11, .long r_9), (0, .ref (a 0)), (2, .int x2), (3, .int x3), (4, .int x4), (5, .int x5), (6, .int x6), (9, .long x9)] F dX6_fogs_195 (by decide) rfl ?_
        refine z_lload F dX6_fogs_197 7 rfl ?_
        refine z_lload F dX6_fogs_199 0 rfl ?_
        refine z_callSl (fun _ => wCE_gc G a vg vc) F (mX6_commonDivisor G x9 r_9 _ h) gX6_fogs_X6_commonDivisor rfl hdX6_commonDivisor ⟨rfl, rfl, Nat.le_of_ble_eq_true rfl, Nat.le_of_ble_eq_true rfl, Nat.le_of_ble_eq_true rfl, Nat.le_of_ble_eq_true rfl⟩ [] [0, 1, 2, 3, 4, 5, 6, 7, 8, 9, 10] [0, 1, 2, 3, 4, 5, 6, 7, 8, 9, 10] rfl rfl (by decide) (fun _ => rfl) rfl (Nat.le_of_ble_eq_true rfl) dX6_fogs_201 (fun r_10 u9 h => ?_)
        refine z_lstore [(13, .long r_10), (11, .long r_9), (0, .ref (a 0)), (2, .int x2), (3, .int x3), (4, .int x4), (5, .int x5), (6, .int x6), (9, .long x9)] F dX6_fogs_204 (by decide) rfl ?_
        refine z_lload F dX6_fogs_206 0 rfl ?_
        refine z_lconst (v := 1) F dX6_fogs_208 rfl ?_
        refine z_lcmp F dX6_fogs_209 ?_
        refine z_if_ge 217 F dX6_fogs_210 (by decide) (fun c9 => ?_) (fun c9 => ?_)
        · have h := h.1 c9
          refine z_iload F dX6_fogs_217 7 rfl ?_
          refine z_if_ne 230 F dX6_fogs_219 (by decide) (fun c9 => ?_) (fun c9 => ?_)
          · have h := h.1 c9
            refine z_lload F dX6_fogs_230 1 rfl ?_
            refine z_lload F dX6_fogs_232 0 rfl ?_
            have h9 := h.1
            have h := h.2
            refine z_ldiv F dX6_fogs_234 h9 ?_
            exact hret (r_9 / r_10) (vg, vc) _ _ h dX6_fogs_235
          · have h := h.2 c9
            refine z_lload F dX6_fogs_222 8 rfl ?_
            refine z_lload F dX6_fogs_224 0 rfl ?_
            have h9 := h.1
            have h := h.2
            refine z_ldiv F dX6_fogs_226 h9 ?_
            refine z_goto 235 F dX6_fogs_227 (by decide) ?_
            exact hret (x9 / r_10) (vg, vc) _ _ h dX6_fogs_235
        · have h := h.2 c9
          refine z_ldc2 (v := -1000000000000000002) F dX6_fogs_213 f0 ?_
          exact hret (-1000000000000000002 : Int64) (vg, vc) _ _ h dX6_fogs_216
      · have h := h.2 c9
        refine z_iload F dX6_fogs_110 7 rfl ?_
        refine z_iload_n F dX6_fogs_112 rfl 1 rfl ?_
        refine z_iload_n F dX6_fogs_113 rfl 2 rfl ?_
        refine z_callSl (fun _ => wCE_gc G a vg vc) F (mX6_fogWeight G x11 x2 x3 _ h) gX6_fogs_X6_fogWeight rfl hdX6_fogWeight ⟨rfl, rfl, Nat.le_of_ble_eq_true rfl, Nat.le_of_ble_eq_true rfl, Nat.le_of_ble_eq_true rfl, Nat.le_of_ble_eq_true rfl⟩ [] [0, 1, 2, 3, 4, 5, 6, 7, 8, 9, 10] [0, 1, 2, 3, 4, 5, 6, 7, 8, 9, 10] rfl rfl (by decide) (fun _ => rfl) rfl (Nat.le_of_ble_eq_true rfl) dX6_fogs_114 (fun r_11 u9 h => ?_)
        refine z_lstore [(12, .long r_11), (0, .ref (a 0)), (2, .int x2), (3, .int x3), (4, .int x4), (5, .int x5), (6, .int x6), (9, .long x9), (11, .int x11)] F dX6_fogs_117 (by decide) rfl ?_
        refine z_lload F dX6_fogs_119 0 rfl ?_
        refine z_lconst (v := 0) F dX6_fogs_121 rfl ?_
        refine z_lcmp F dX6_fogs_122 ?_
        refine z_if_le 183 F dX6_fogs_123 (by decide) (fun c9 => ?_) (fun c9 => ?_)
        · have h := h.1 c9
          exact z_lv [1, 2, 3, 4, 5, 6, 7, 8] rfl (t183 K102 ih102 vg vc x2 x3 x4 x5 x6 x9 x11 h)
        · have h := h.2 c9
          refine z_aload_n F dX6_fogs_126 rfl 1 rfl ?_
          refine z_get (ci := 6) F iX6 0 rfl rfl 4 (by decide) f1 rfl rfl dX6_fogs_127 ?_
          refine z_aload_n F dX6_fogs_130 rfl 1 rfl ?_
          refine z_get (ci := 6) F iX6 0 rfl rfl 0 (by decide) f2 rfl rfl dX6_fogs_131 ?_
          refine z_iload_n F dX6_fogs_134 rfl 2 rfl ?_
          refine z_iload F dX6_fogs_135 8 rfl ?_
          refine z_callVv (fun u9 => wCE_gc G a u9.2 u9.1) F (mX0_run G (fun k => a (28 + k)) (fun k => a (1 + k)) vc vg x2 x11 _ h) gX6_fogs_X0_run rfl hdX0_run ⟨rfl, rfl, Nat.le_of_ble_eq_true rfl, Nat.le_of_ble_eq_true rfl, Nat.le_of_ble_eq_true rfl, Nat.le_of_ble_eq_true rfl⟩ 9 rfl rfl [9, 10, 1, 2, 3, 4, 5, 6, 7, 8] [0] [0, 3, 4, 5, 6, 7, 8, 9, 10, 1, 2] rfl rfl (by decide) (fun _ => rfl) rfl (Nat.le_of_ble_eq_true rfl) dX6_fogs_137 (fun u9 h => ?_)
          obtain ⟨vc_12, vg_13⟩ := u9
          refine z_w (w' := wCE_gc G a vg_13 vc_12) rfl ?_
          refine z_aload_n F dX6_fogs_140 rfl 1 rfl ?_
          refine z_get (ci := 6) F iX6 0 rfl rfl 4 (by decide) f1 rfl rfl dX6_fogs_141 ?_
          refine z_iload_n F dX6_fogs_144 rfl 2 rfl ?_
          refine z_callVi (fun u9 => wCE_gc G a vg_13 u9) F (mX0_at G (fun k => a (28 + k)) vc_12 x2 _ h) gX6_fogs_X0_at rfl hdX0_at ⟨rfl, rfl, Nat.le_of_ble_eq_true rfl, Nat.le_of_ble_eq_true rfl, Nat.le_of_ble_eq_true rfl, Nat.le_of_ble_eq_true rfl⟩ 9 rfl rfl [9, 10] [0, 1, 2, 3, 4, 5, 6, 7, 8] [0, 1, 2, 3, 4, 5, 6, 7, 8, 9, 10] rfl rfl (by decide) (fun _ => rfl) rfl (Nat.le_of_ble_eq_true rfl) dX6_fogs_145 (fun r_14 vc_15 h => ?_)
          refine z_istore [(14, .int r_14), (12, .long r_11), (0, .ref (a 0)), (2, .int x2), (3, .int x3), (4, .int x4), (5, .int x5), (6, .int x6), (9, .long x9), (11, .int x11)] F dX6_fogs_148 (by decide) rfl ?_
          refine z_lload F dX6_fogs_150 8 rfl ?_
          refine z_iload F dX6_fogs_152 6 rfl ?_
          refine z_iconst (v := 1) F dX6_fogs_154 rfl ?_
          refine z_icmp_ne 167 F dX6_fogs_155 (by decide) (fun c9 => ?_) (fun c9 => ?_)
          · have h := h.1 c9
            refine z_iload F dX6_fogs_167 0 rfl ?_
            refine z_iload F dX6_fogs_169 5 rfl ?_
            refine z_icmp_lt 179 F dX6_fogs_171 (by decide) (fun c9 => ?_) (fun c9 => ?_)
            · have h := h.1 c9
              refine z_lconst (v := 0) F dX6_fogs_179 rfl ?_
              exact z_lv [2, 3, 4, 5, 6, 7, 9] rfl (t180 K102 ih102 vg_13 vc_15 x2 x3 x4 x5 x6 x11 x9 (0 : Int64) h)
            · have h := h.2 c9
              refine z_lload F dX6_fogs_174 1 rfl ?_
              refine z_goto 180 F dX6_fogs_176 (by decide) ?_
              exact z_lv [2, 3, 4, 5, 6, 7, 9] rfl (t180 K102 ih102 vg_13 vc_15 x2 x3 x4 x5 x6 x11 x9 r_11 h)
          · have h := h.2 c9
            refine z_lload F dX6_fogs_158 1 rfl ?_
            refine z_iload F dX6_fogs_160 0 rfl ?_
            refine z_i2l F dX6_fogs_162 ?_
            refine z_lmul F dX6_fogs_163 ?_
            refine z_goto 180 F dX6_fogs_164 (by decide) ?_
            exact z_lv [2, 3, 4, 5, 6, 7, 9] rfl (t180 K102 ih102 vg_13 vc_15 x2 x3 x4 x5 x6 x11 x9 (r_11 * (r_14).toInt64) h)
  have t52 : ∀ (vg : Gr) (vc : Co) (x1 : Int32) (x2 : Int32) (x3 : Int32) (x4 : Int32) (x5 : Int32) (x6 : Int32) (x7 : Int32) (s0 : Int32), wpX6_fogs_B52 Q vg vc x1 x2 x3 x4 x5 x6 x7 s0 → Z E 15 0 0 (wCE_gc G a vg vc) [(0, .ref (a 0)), (1, .int x1), (2, .int x2), (3, .int x3), (4, .int x4), (5, .int x5), (6, .int x6), (7, .int x7)] 52 [.int s0] := by
    intro vg vc x1 x2 x3 x4 x5 x6 x7 s0 h
    unfold wpX6_fogs_B52 at h
    refine z_istore [(8, .int s0), (0, .ref (a 0)), (1, .int x1), (2, .int x2), (3, .int x3), (4, .int x4), (5, .int x5), (6, .int x6), (7, .int x7)] F dX6_fogs_52 (by decide) rfl ?_
    refine z_iload_n F dX6_fogs_54 rfl 2 rfl ?_
    refine z_callSi (fun _ => wCE_gc G a vg vc) F (mX6_isColour G x1 _ h) gX6_fogs_X6_isColour rfl hdX6_isColour ⟨rfl, rfl, Nat.le_of_ble_eq_true rfl, Nat.le_of_ble_eq_true rfl, Nat.le_of_ble_eq_true rfl, Nat.le_of_ble_eq_true rfl⟩ [] [0, 1, 2, 3, 4, 5, 6, 7, 8, 9, 10] [0, 1, 2, 3, 4, 5, 6, 7, 8, 9, 10] rfl rfl (by decide) (fun _ => rfl) rfl (Nat.le_of_ble_eq_true rfl) dX6_fogs_55 (fun r_5 u9 h => ?_)
    refine z_if_eq 79 F dX6_fogs_58 (by decide) (fun c9 => ?_) (fun c9 => ?_)
    · have h := h.1 c9
      refine z_ldc2 (v := -1000000000000000002) F dX6_fogs_79 f0 ?_
      exact hret (-1000000000000000002 : Int64) (vg, vc) _ _ h dX6_fogs_82
    · have h := h.2 c9
      refine z_iload F dX6_fogs_61 8 rfl ?_
      refine z_if_eq 79 F dX6_fogs_63 (by decide) (fun c9 => ?_) (fun c9 => ?_)
      · have h := h.1 c9
        refine z_ldc2 (v := -1000000000000000002) F dX6_fogs_79 f0 ?_
        exact hret (-1000000000000000002 : Int64) (vg, vc) _ _ h dX6_fogs_82
      · have h := h.2 c9
        refine z_iload F dX6_fogs_66 5 rfl ?_
        refine z_callSi (fun _ => wCE_gc G a vg vc) F (mX6_isAmount G x4 _ h) gX6_fogs_X6_isAmount rfl hdX6_isAmount ⟨rfl, rfl, Nat.le_of_ble_eq_true rfl, Nat.le_of_ble_eq_true rfl, Nat.le_of_ble_eq_true rfl, Nat.le_of_ble_eq_true rfl⟩ [] [0, 1, 2, 3, 4, 5, 6, 7, 8, 9, 10] [0, 1, 2, 3, 4, 5, 6, 7, 8, 9, 10] rfl rfl (by decide) (fun _ => rfl) rfl (Nat.le_of_ble_eq_true rfl) dX6_fogs_68 (fun r_6 u9 h => ?_)
        refine z_if_eq 79 F dX6_fogs_71 (by decide) (fun c9 => ?_) (fun c9 => ?_)
        · have h := h.1 c9
          refine z_ldc2 (v := -1000000000000000002) F dX6_fogs_79 f0 ?_
          exact hret (-1000000000000000002 : Int64) (vg, vc) _ _ h dX6_fogs_82
        · have h := h.2 c9
          refine z_iload F dX6_fogs_74 0 rfl ?_
          refine z_if_ne 83 F dX6_fogs_76 (by decide) (fun c9 => ?_) (fun c9 => ?_)
          · have h := h.1 c9
            refine z_aload_n F dX6_fogs_83 rfl 1 rfl ?_
            refine z_get (ci := 6) F iX6 0 rfl rfl 4 (by decide) f1 rfl rfl dX6_fogs_84 ?_
            refine z_aload_n F dX6_fogs_87 rfl 1 rfl ?_
            refine z_get (ci := 6) F iX6 0 rfl rfl 0 (by decide) f2 rfl rfl dX6_fogs_88 ?_
            refine z_iload_n F dX6_fogs_91 rfl 2 rfl ?_
            refine z_iconst (v := 0) F dX6_fogs_92 rfl ?_
            refine z_callVv (fun u9 => wCE_gc G a u9.2 u9.1) F (mX0_fromNow G (fun k => a (28 + k)) (fun k => a (1 + k)) vc vg x1 (0 : Int32) _ h) gX6_fogs_X0_fromNow rfl hdX0_fromNow ⟨rfl, rfl, Nat.le_of_ble_eq_true rfl, Nat.le_of_ble_eq_true rfl, Nat.le_of_ble_eq_true rfl, Nat.le_of_ble_eq_true rfl⟩ 9 rfl rfl [9, 10, 1, 2, 3, 4, 5, 6, 7, 8] [0] [0, 3, 4, 5, 6, 7, 8, 9, 10, 1, 2] rfl rfl (by decide) (fun _ => rfl) rfl (Nat.le_of_ble_eq_true rfl) dX6_fogs_93 (fun u9 h => ?_)
            obtain ⟨vc_7, vg_8⟩ := u9
            refine z_w (w' := wCE_gc G a vg_8 vc_7) rfl ?_
            refine z_lconst (v := 0) F dX6_fogs_96 rfl ?_
            refine z_lstore [(9, .long (0 : Int64)), (8, .int s0), (0, .ref (a 0)), (1, .int x1), (2, .int x2), (3, .int x3), (4, .int x4), (5, .int x5), (6, .int x6), (7, .int x7)] F dX6_fogs_97 (by decide) rfl ?_
            refine z_iconst (v := 0) F dX6_fogs_99 rfl ?_
            refine z_istore [(11, .int (0 : Int32)), (9, .long (0 : Int64)), (8, .int s0), (0, .ref (a 0)), (1, .int x1), (2, .int x2), (3, .int x3), (4, .int x4), (5, .int x5), (6, .int x6), (7, .int x7)] F dX6_fogs_100 (by decide) rfl ?_
            obtain ⟨n9, h⟩ := h
            exact z_lv [3, 5, 6, 7, 8, 9, 1, 0] rfl (t102 n9 vg_8 vc_7 x2 x3 x4 x5 x6 (0 : Int64) (0 : Int32) h)
          · have h := h.2 c9
            refine z_ldc2 (v := -1000000000000000002) F dX6_fogs_79 f0 ?_
            exact hret (-1000000000000000002 : Int64) (vg, vc) _ _ h dX6_fogs_82
  have t51 : ∀ (vg : Gr) (vc : Co) (x1 : Int32) (x2 : Int32) (x3 : Int32) (x4 : Int32) (x5 : Int32) (x6 : Int32) (x7 : Int32), wpX6_fogs_B51 Q vg vc x1 x2 x3 x4 x5 x6 x7 → Z E 15 0 0 (wCE_gc G a vg vc) [(0, .ref (a 0)), (1, .int x1), (2, .int x2), (3, .int x3), (4, .int x4), (5, .int x5), (6, .int x6), (7, .int x7)] 51 [] := by
    intro vg vc x1 x2 x3 x4 x5 x6 x7 h
    unfold wpX6_fogs_B51 at h
    refine z_iconst (v := 0) F dX6_fogs_51 rfl ?_
    exact z_lv [0, 1, 2, 3, 4, 5, 6, 7] rfl (t52 vg vc x1 x2 x3 x4 x5 x6 x7 (0 : Int32) h)
  have t25 : ∀ (vg : Gr) (vc : Co) (x1 : Int32) (x2 : Int32) (x3 : Int32) (x4 : Int32) (x5 : Int32) (x6 : Int32) (s0 : Int32), wpX6_fogs_B25 Q vg vc x1 x2 x3 x4 x5 x6 s0 → Z E 15 0 0 (wCE_gc G a vg vc) [(0, .ref (a 0)), (1, .int x1), (2, .int x2), (3, .int x3), (4, .int x4), (5, .int x5), (6, .int x6)] 25 [.int s0] := by
    intro vg vc x1 x2 x3 x4 x5 x6 s0 h
    unfold wpX6_fogs_B25 at h
    refine z_istore [(7, .int s0), (0, .ref (a 0)), (1, .int x1), (2, .int x2), (3, .int x3), (4, .int x4), (5, .int x5), (6, .int x6)] F dX6_fogs_25 (by decide) rfl ?_
    refine z_iload F dX6_fogs_27 6 rfl ?_
    refine z_iconst (v := 0) F dX6_fogs_29 rfl ?_
    refine z_iconst (v := 1) F dX6_fogs_30 rfl ?_
    refine z_callSi (fun _ => wCE_gc G a vg vc) F (mX6_isWithin G x5 (0 : Int32) (1 : Int32) _ h) gX6_fogs_X6_isWithin rfl hdX6_isWithin ⟨rfl, rfl, Nat.le_of_ble_eq_true rfl, Nat.le_of_ble_eq_true rfl, Nat.le_of_ble_eq_true rfl, Nat.le_of_ble_eq_true rfl⟩ [] [0, 1, 2, 3, 4, 5, 6, 7, 8, 9, 10] [0, 1, 2, 3, 4, 5, 6, 7, 8, 9, 10] rfl rfl (by decide) (fun _ => rfl) rfl (Nat.le_of_ble_eq_true rfl) dX6_fogs_31 (fun r_3 u9 h => ?_)
    refine z_if_eq 51 F dX6_fogs_34 (by decide) (fun c9 => ?_) (fun c9 => ?_)
    · have h := h.1 c9
      exact z_lv [1, 2, 3, 4, 5, 6, 7, 0] rfl (t51 vg vc x1 x2 x3 x4 x5 x6 s0 h)
    · have h := h.2 c9
      refine z_iload F dX6_fogs_37 7 rfl ?_
      refine z_iconst (v := 0) F dX6_fogs_39 rfl ?_
      refine z_iconst (v := 1) F dX6_fogs_40 rfl ?_
      refine z_callSi (fun _ => wCE_gc G a vg vc) F (mX6_isWithin G x6 (0 : Int32) (1 : Int32) _ h) gX6_fogs_X6_isWithin rfl hdX6_isWithin ⟨rfl, rfl, Nat.le_of_ble_eq_true rfl, Nat.le_of_ble_eq_true rfl, Nat.le_of_ble_eq_true rfl, Nat.le_of_ble_eq_true rfl⟩ [] [0, 1, 2, 3, 4, 5, 6, 7, 8, 9, 10] [0, 1, 2, 3, 4, 5, 6, 7, 8, 9, 10] rfl rfl (by decide) (fun _ => rfl) rfl (Nat.le_of_ble_eq_true rfl) dX6_fogs_41 (fun r_4 u9 h => ?_)
      refine z_if_eq 51 F dX6_fogs_44 (by decide) (fun c9 => ?_) (fun c9 => ?_)
      · have h := h.1 c9
        exact z_lv [1, 2, 3, 4, 5, 6, 7, 0] rfl (t51 vg vc x1 x2 x3 x4 x5 x6 s0 h)
      · have h := h.2 c9
        refine z_iconst (v := 1) F dX6_fogs_47 rfl ?_
        refine z_goto 52 F dX6_fogs_48 (by decide) ?_
        exact z_lv [1, 2, 3, 4, 5, 6, 7, 0] rfl (t52 vg vc x1 x2 x3 x4 x5 x6 s0 (1 : Int32) h)
  have t24 : ∀ (vg : Gr) (vc : Co) (x1 : Int32) (x2 : Int32) (x3 : Int32) (x4 : Int32) (x5 : Int32) (x6 : Int32), wpX6_fogs_B24 Q vg vc x1 x2 x3 x4 x5 x6 → Z E 15 0 0 (wCE_gc G a vg vc) [(0, .ref (a 0)), (1, .int x1), (2, .int x2), (3, .int x3), (4, .int x4), (5, .int x5), (6, .int x6)] 24 [] := by
    intro vg vc x1 x2 x3 x4 x5 x6 h
    unfold wpX6_fogs_B24 at h
    refine z_iconst (v := 0) F dX6_fogs_24 rfl ?_
    exact z_lv [0, 1, 2, 3, 4, 5, 6] rfl (t25 vg vc x1 x2 x3 x4 x5 x6 (0 : Int32) h)
  unfold wpX6_fogs at h
  refine z_iload_n F dX6_fogs_0 rfl 2 rfl ?_
  refine z_iconst (v := 0) F dX6_fogs_1 rfl ?_
  refine z_bipush (v := 8) F dX6_fogs_2 rfl ?_
  refine z_callSi (fun _ => wCE_gc G a vg vc) F (mX6_isWithin G p2 (0 : Int32) (8 : Int32) _ h) gX6_fogs_X6_isWithin rfl hdX6_isWithin ⟨rfl, rfl, Nat.le_of_ble_eq_true rfl, Nat.le_of_ble_eq_true rfl, Nat.le_of_ble_eq_true rfl, Nat.le_of_ble_eq_true rfl⟩ [] [0, 1, 2, 3, 4, 5, 6, 7, 8, 9, 10] [0, 1, 2, 3, 4, 5, 6, 7, 8, 9, 10] rfl rfl (by decide) (fun _ => rfl) rfl (Nat.le_of_ble_eq_true rfl) dX6_fogs_4 (fun r_1 u9 h => ?_)
  refine z_if_eq 24 F dX6_fogs_7 (by decide) (fun c9 => ?_) (fun c9 => ?_)
  · have h := h.1 c9
    exact z_lv [0, 1, 2, 3, 4, 5, 6] rfl (t24 vg vc p1 p2 p3 p4 p5 p6 h)
  · have h := h.2 c9
    refine z_iload_n F dX6_fogs_10 rfl 3 rfl ?_
    refine z_iconst (v := 0) F dX6_fogs_11 rfl ?_
    refine z_bipush (v := 10) F dX6_fogs_12 rfl ?_
    refine z_callSi (fun _ => wCE_gc G a vg vc) F (mX6_isWithin G p3 (0 : Int32) (10 : Int32) _ h) gX6_fogs_X6_isWithin rfl hdX6_isWithin ⟨rfl, rfl, Nat.le_of_ble_eq_true rfl, Nat.le_of_ble_eq_true rfl, Nat.le_of_ble_eq_true rfl, Nat.le_of_ble_eq_true rfl⟩ [] [0, 1, 2, 3, 4, 5, 6, 7, 8, 9, 10] [0, 1, 2, 3, 4, 5, 6, 7, 8, 9, 10] rfl rfl (by decide) (fun _ => rfl) rfl (Nat.le_of_ble_eq_true rfl) dX6_fogs_14 (fun r_2 u9 h => ?_)
    refine z_if_eq 24 F dX6_fogs_17 (by decide) (fun c9 => ?_) (fun c9 => ?_)
    · have h := h.1 c9
      exact z_lv [0, 1, 2, 3, 4, 5, 6] rfl (t24 vg vc p1 p2 p3 p4 p5 p6 h)
    · have h := h.2 c9
      refine z_iconst (v := 1) F dX6_fogs_20 rfl ?_
      refine z_goto 25 F dX6_fogs_21 (by decide) ?_
      exact z_lv [0, 1, 2, 3, 4, 5, 6] rfl (t25 vg vc p1 p2 p3 p4 p5 p6 (1 : Int32) h)
abbrev rmX6_turns : Room := { frames := 5, cells := 0, slots := 0, locals := 117 }
set_option maxRecDepth 100000 in
set_option maxHeartbeats 4000000 in
theorem mX6_turns (G : ZG) (a : Nat → Nat) (vg : Gr) (vt : Gm) (p1 : Int32) (p2 : Int32) (Q : Int32 → Gr → Gm → Prop) (h : wpX6_turns vg vt p1 p2 Q) : ZMi G yX6_turns wsX6_turns rmX6_turns [.ref (a 0), .int p1, .int p2] (wCE_gt G a vg vt) (fun u9 : Gr × Gm => wCE_gt G a u9.1 u9.2) (fun r u9 => Q r u9.1 u9.2) := by
  refine z_ofi (cc := cX6_turns) (N := 3) (lv := [(0, .ref (a 0)), (1, .int p1), (2, .int p2)]) (by decide) rfl (Nat.le_of_ble_eq_true rfl) rfl (fun E F hret => ?_)
  have F : ZF E 3 cX6_turns RX6 wsX6_turns rmX6_turns G := F
  have f0 : ZW E (.fieldLink RX6 50 "ColourEcho" "game" "LColourEcho$Game;") := F.at 1 rfl
  have f1 : ZW E (.fieldLink RX6 12 "ColourEcho" "gorge" "LColourEcho$Gorge;") := F.at 2 rfl
  have iX6 : ∀ x ∈ u_ws RX6 TX6 11, x ∈ wsX6_turns := fun _ h => List.mem_cons_of_mem _ (List.mem_append_left _ (List.mem_append_left _ (List.mem_append_right _ h)))
  unfold wpX6_turns at h
  refine z_iload_n F dX6_turns_0 rfl 1 rfl ?_
  refine z_callSi (fun _ => wCE_gt G a vg vt) F (mX6_isSet G p1 _ h) gX6_turns_X6_isSet rfl hdX6_isSet ⟨rfl, rfl, Nat.le_of_ble_eq_true rfl, Nat.le_of_ble_eq_true rfl, Nat.le_of_ble_eq_true rfl, Nat.le_of_ble_eq_true rfl⟩ [] [0, 1, 2, 3, 4, 5, 6, 7, 8, 9, 10, 11] [0, 1, 2, 3, 4, 5, 6, 7, 8, 9, 10, 11] rfl rfl (by decide) (fun _ => rfl) rfl (Nat.le_of_ble_eq_true rfl) dX6_turns_1 (fun r_1 u9 h => ?_)
  refine z_if_ne 9 F dX6_turns_4 (by decide) (fun c9 => ?_) (fun c9 => ?_)
  · have h := h.1 c9
    refine z_iload_n F dX6_turns_9 rfl 2 rfl ?_
    refine z_iconst (v := 0) F dX6_turns_10 rfl ?_
    refine z_iconst (v := 1) F dX6_turns_11 rfl ?_
    refine z_callSi (fun _ => wCE_gt G a vg vt) F (mX6_isWithin G p2 (0 : Int32) (1 : Int32) _ h) gX6_turns_X6_isWithin rfl hdX6_isWithin ⟨rfl, rfl, Nat.le_of_ble_eq_true rfl, Nat.le_of_ble_eq_true rfl, Nat.le_of_ble_eq_true rfl, Nat.le_of_ble_eq_true rfl⟩ [] [0, 1, 2, 3, 4, 5, 6, 7, 8, 9, 10, 11] [0, 1, 2, 3, 4, 5, 6, 7, 8, 9, 10, 11] rfl rfl (by decide) (fun _ => rfl) rfl (Nat.le_of_ble_eq_true rfl) dX6_turns_12 (fun r_2 u9 h => ?_)
    refine z_if_ne 21 F dX6_turns_15 (by decide) (fun c9 => ?_) (fun c9 => ?_)
    · have h := h.1 c9
      refine z_aload_n F dX6_turns_21 rfl 0 rfl ?_
      refine z_get (ci := 6) F iX6 0 rfl rfl 6 (by decide) f0 rfl rfl dX6_turns_22 ?_
      refine z_aload_n F dX6_turns_25 rfl 0 rfl ?_
      refine z_get (ci := 6) F iX6 0 rfl rfl 0 (by decide) f1 rfl rfl dX6_turns_26 ?_
      refine z_iload_n F dX6_turns_29 rfl 1 rfl ?_
      refine z_callVv (fun u9 => wCE_gt G a u9.2 u9.1) F (mX2_solve G (fun k => a (34 + k)) (fun k => a (1 + k)) vt vg p1 _ h) gX6_turns_X2_solve rfl hdX2_solve ⟨rfl, rfl, Nat.le_of_ble_eq_true rfl, Nat.le_of_ble_eq_true rfl, Nat.le_of_ble_eq_true rfl, Nat.le_of_ble_eq_true rfl⟩ 9 rfl rfl [9, 10, 11, 1, 2, 3, 4, 5, 6, 7, 8] [0] [0, 4, 5, 6, 7, 8, 9, 10, 11, 1, 2, 3] rfl rfl (by decide) (fun _ => rfl) rfl (Nat.le_of_ble_eq_true rfl) dX6_turns_30 (fun u9 h => ?_)
      obtain ⟨vt_3, vg_4⟩ := u9
      refine z_w (w' := wCE_gt G a vg_4 vt_3) rfl ?_
      refine z_iload_n F dX6_turns_33 rfl 2 rfl ?_
      refine z_if_ne 47 F dX6_turns_34 (by decide) (fun c9 => ?_) (fun c9 => ?_)
      · have h := h.1 c9
        refine z_aload_n F dX6_turns_47 rfl 0 rfl ?_
        refine z_get (ci := 6) F iX6 0 rfl rfl 6 (by decide) f0 rfl rfl dX6_turns_48 ?_
        refine z_callVi (fun u9 => wCE_gt G a vg_4 u9) F (mX2_opening G (fun k => a (34 + k)) vt_3 _ h) gX6_turns_X2_opening rfl hdX2_opening ⟨rfl, rfl, Nat.le_of_ble_eq_true rfl, Nat.le_of_ble_eq_true rfl, Nat.le_of_ble_eq_true rfl, Nat.le_of_ble_eq_true rfl⟩ 9 rfl rfl [9, 10, 11] [0, 1, 2, 3, 4, 5, 6, 7, 8] [0, 1, 2, 3, 4, 5, 6, 7, 8, 9, 10, 11] rfl rfl (by decide) (fun _ => rfl) rfl (Nat.le_of_ble_eq_true rfl) dX6_turns_51 (fun r_5 vt_6 h => ?_)
        exact hret r_5 (vg_4, vt_6) _ _ h dX6_turns_54
      · have h := h.2 c9
        refine z_aload_n F dX6_turns_37 rfl 0 rfl ?_
        refine z_get (ci := 6) F iX6 0 rfl rfl 6 (by decide) f0 rfl rfl dX6_turns_38 ?_
        refine z_callVi (fun u9 => wCE_gt G a vg_4 u9) F (mX2_winner G (fun k => a (34 + k)) vt_3 _ h) gX6_turns_X2_winner rfl hdX2_winner ⟨rfl, rfl, Nat.le_of_ble_eq_true rfl, Nat.le_of_ble_eq_true rfl, Nat.le_of_ble_eq_true rfl, Nat.le_of_ble_eq_true rfl⟩ 9 rfl rfl [9, 10, 11] [0, 1, 2, 3, 4, 5, 6, 7, 8] [0, 1, 2, 3, 4, 5, 6, 7, 8, 9, 10, 11] rfl rfl (by decide) (fun _ => rfl) rfl (Nat.le_of_ble_eq_true rfl) dX6_turns_41 (fun r_7 vt_8 h => ?_)
        refine z_goto 54 F dX6_turns_44 (by decide) ?_
        exact hret r_7 (vg_4, vt_8) _ _ h dX6_turns_54
    · have h := h.2 c9
      refine z_bipush (v := -2) F dX6_turns_18 rfl ?_
      exact hret (-2 : Int32) (vg, vt) _ _ h dX6_turns_20
  · have h := h.2 c9
    refine z_iconst (v := -1) F dX6_turns_7 rfl ?_
    exact hret (-1 : Int32) (vg, vt) _ _ h dX6_turns_8
abbrev rmX6_year : Room := { frames := 3, cells := 0, slots := 0, locals := 81 }
set_option maxRecDepth 100000 in
set_option maxHeartbeats 4000000 in
theorem mX6_year (G : ZG) (a : Nat → Nat) (vg : Gr) (vs : Gr) (p1 : Int32) (p2 : Int32) (p3 : Int32) (Q : Int32 → Gr → Gr → Prop) (h : wpX6_year vg vs p1 p2 p3 Q) : ZMi G yX6_year wsX6_year rmX6_year [.ref (a 0), .int p1, .int p2, .int p3] (wCE_gs G a vg vs) (fun u9 : Gr × Gr => wCE_gs G a u9.1 u9.2) (fun r u9 => Q r u9.1 u9.2) := by
  refine z_ofi (cc := cX6_year) (N := 8) (lv := [(0, .ref (a 0)), (1, .int p1), (2, .int p2), (3, .int p3)]) (by decide) rfl (Nat.le_of_ble_eq_true rfl) rfl (fun E F hret => ?_)
  have F : ZF E 8 cX6_year RX6 wsX6_year rmX6_year G := F
  have f0 : ZW E (.fieldLink RX6 16 "ColourEcho" "scratch" "LColourEcho$Gorge;") := F.at 1 rfl
  have f1 : ZW E (.fieldLink RX6 12 "ColourEcho" "gorge" "LColourEcho$Gorge;") := F.at 2 rfl
  have f2 : ZW E (.constant RX6 244 (65537)) := F.at 3 rfl
  have f3 : ZW E (.methodLink RX6 159 Lib.Math.max.name) := F.at 4 rfl
  have f4 : ZW E (.static Lib.Math.max.name) := F.at 5 rfl
  have f5 : ZW E (.initialized "java/lang/Math") := F.at 6 rfl
  have f6 : ZW E (.code Lib.Math.max.name Lib.Math.max.code 2 (some .int)) := F.at 7 rfl
  have iX6 : ∀ x ∈ u_ws RX6 TX6 11, x ∈ wsX6_year := fun _ h => List.mem_cons_of_mem _ (List.mem_append_left _ (List.mem_append_right _ h))
  have t108 : ∀ (K56 : Gr → Gr → Int32 → Int32 → Int32 → Int32 → Int32 → Int32 → Prop) (ih56 : ∀ (vg : Gr) (vs : Gr) (x2 : Int32) (x3 : Int32) (x4 : Int32) (x5 : Int32) (x6 : Int32) (x7 : Int32), K56 vg vs x2 x3 x4 x5 x6 x7 → Z E 8 0 0 (wCE_gs G a vg vs) [(0, .ref (a 0)), (2, .int x2), (3, .int x3), (4, .int x4), (5, .int x5), (6, .int x6), (7, .int x7)] 56 []) (vg : Gr) (vs : Gr) (x2 : Int32) (x3 : Int32) (x4 : Int32) (x6 : Int32) (x7 : Int32) (s0 : Int32) (s1 : Int32), wpX6_year_B108 Q K56 vg vs x2 x3 x4 x6 x7 s0 s1 → Z E 8 0 0 (wCE_gs G a vg vs) [(0, .ref (a 0)), (2, .int x2), (3, .int x3), (4, .int x4), (6, .int x6), (7, .int x7)] 108 [.int s1, .int s0] := by
    intro K56 ih56 vg vs x2 x3 x4 x6 x7 s0 s1 h
    unfold wpX6_year_B108 at h
    refine z_iadd F dX6_year_108 ?_
    refine z_topi (fun x5_17 e9 => ?_)
    have h := h x5_17 e9
    refine z_istore [(5, .int x5_17), (0, .ref (a 0)), (2, .int x2), (3, .int x3), (4, .int x4), (6, .int x6), (7, .int x7)] F dX6_year_109 (by decide) rfl ?_
    refine z_iload F dX6_year_111 5 rfl ?_
    refine z_aload_n F dX6_year_113 rfl 1 rfl ?_
    refine z_get (ci := 6) F iX6 0 rfl rfl 1 (by decide) f0 rfl rfl dX6_year_114 ?_
    refine z_callVi (fun u9 => wCE_gs G a vg u9) F (mX3_mostSeen G (fun k => a (9 + k)) vs _ h) gX6_year_X3_mostSeen rfl hdX3_mostSeen ⟨rfl, rfl, Nat.le_of_ble_eq_true rfl, Nat.le_of_ble_eq_true rfl, Nat.le_of_ble_eq_true rfl, Nat.le_of_ble_eq_true rfl⟩ 9 rfl rfl [9, 10, 11, 12, 13, 14, 15, 16] [0, 1, 2, 3, 4, 5, 6, 7, 8] [0, 1, 2, 3, 4, 5, 6, 7, 8, 9, 10, 11, 12, 13, 14, 15, 16] rfl rfl (by decide) (fun _ => rfl) rfl (Nat.le_of_ble_eq_true rfl) dX6_year_117 (fun r_18 vs_19 h => ?_)
    refine z_max F f3 f4 f5 f6 ⟨Nat.le_of_ble_eq_true rfl, Nat.le_of_ble_eq_true rfl, Nat.le_of_ble_eq_true rfl, Nat.le_of_ble_eq_true rfl⟩ dX6_year_120 ?_
    refine z_topi (fun x6_20 e9 => ?_)
    have h := h x6_20 e9
    refine z_istore [(6, .int x6_20), (5, .int x5_17), (0, .ref (a 0)), (2, .int x2), (3, .int x3), (4, .int x4), (7, .int x7)] F dX6_year_123 (by decide) rfl ?_
    obtain ⟨x7_21, e9⟩ : ∃ z : Int32, z = x7 + 1 := ⟨_, rfl⟩
    have h := h x7_21 e9
    refine z_iinc (v := x7_21) [(7, .int x7_21), (6, .int x6_20), (5, .int x5_17), (0, .ref (a 0)), (2, .int x2), (3, .int x3), (4, .int x4)] F dX6_year_125 6 rfl (by rw [e9]; rfl) (by decide) rfl ?_
    refine z_goto 56 F dX6_year_128 (by decide) ?_
    exact z_lv [3, 4, 5, 6, 2, 1, 0] rfl (ih56 vg vs_19 x2 x3 x4 x5_17 x6_20 x7_21 h)
  have t56 : ∀ (n : Nat) (vg : Gr) (vs : Gr) (x2 : Int32) (x3 : Int32) (x4 : Int32) (x5 : Int32) (x6 : Int32) (x7 : Int32), wpX6_year_L56 Q n vg vs x2 x3 x4 x5 x6 x7 → Z E 8 0 0 (wCE_gs G a vg vs) [(0, .ref (a 0)), (2, .int x2), (3, .int x3), (4, .int x4), (5, .int x5), (6, .int x6), (7, .int x7)] 56 [] := by
    intro n
    induction n with
    | zero => intro vg vs x2 x3 x4 x5 x6 x7 h; exact h.elim
    | succ n ihQ =>
      have ih56 : ∀ (vg : Gr) (vs : Gr) (x2 : Int32) (x3 : Int32) (x4 : Int32) (x5 : Int32) (x6 : Int32) (x7 : Int32), wpX6_year_L56 Q n vg vs x2 x3 x4 x5 x6 x7 → Z E 8 0 0 (wCE_gs G a vg vs) [(0, .ref (a 0)), (2, .int x2), (3, .int x3), (4, .int x4), (5, .int x5), (6, .int x6), (7, .int x7)] 56 [] := ihQ
      intro vg vs x2 x3 x4 x5 x6 x7 h
      have h : wpX6_year_H56 Q (wpX6_year_L56 Q n) vg vs x2 x3 x4 x5 x6 x7 := h
      generalize wpX6_year_L56 Q n = K56 at h ih56
      clear ihQ
      unfold wpX6_year_H56 at h
      refine z_iload F dX6_year_56 6 rfl ?_
      refine z_iload_n F dX6_year_58 rfl 1 rfl ?_
      refine z_icmp_ge 131 F dX6_year_59 (by decide) (fun c9 => ?_) (fun c9 => ?_)
      · have h := h.1 c9
        refine z_iload_n F dX6_year_131 rfl 2 rfl ?_
        refine z_if_ne 165 F dX6_year_132 (by decide) (fun c9 => ?_) (fun c9 => ?_)
        · have h := h.1 c9
          refine z_iload_n F dX6_year_165 rfl 2 rfl ?_
          refine z_iconst (v := 1) F dX6_year_166 rfl ?_
          refine z_icmp_ne 175 F dX6_year_167 (by decide) (fun c9 => ?_) (fun c9 => ?_)
          · have h := h.1 c9
            refine z_iload F dX6_year_175 5 rfl ?_
            exact hret x6 (vg, vs) _ _ h dX6_year_177
          · have h := h.2 c9
            refine z_iload F dX6_year_170 4 rfl ?_
            refine z_goto 177 F dX6_year_172 (by decide) ?_
            exact hret x5 (vg, vs) _ _ h dX6_year_177
        · have h := h.2 c9
          refine z_aload_n F dX6_year_135 rfl 0 rfl ?_
          refine z_get (ci := 6) F iX6 0 rfl rfl 1 (by decide) f0 rfl rfl dX6_year_136 ?_
          refine z_iconst (v := 0) F dX6_year_139 rfl ?_
          refine z_iconst (v := 0) F dX6_year_140 rfl ?_
          refine z_callVi (fun u9 => wCE_gs G a vg u9) F (mX3_seenToday G (fun k => a (9 + k)) vs (0 : Int32) (0 : Int32) _ h) gX6_year_X3_seenToday rfl hdX3_seenToday ⟨rfl, rfl, Nat.le_of_ble_eq_true rfl, Nat.le_of_ble_eq_true rfl, Nat.le_of_ble_eq_true rfl, Nat.le_of_ble_eq_true rfl⟩ 9 rfl rfl [9, 10, 11, 12, 13, 14, 15, 16] [0, 1, 2, 3, 4, 5, 6, 7, 8] [0, 1, 2, 3, 4, 5, 6, 7, 8, 9, 10, 11, 12, 13, 14, 15, 16] rfl rfl (by decide) (fun _ => rfl) rfl (Nat.le_of_ble_eq_true rfl) dX6_year_141 (fun r_6 vs_7 h => ?_)
          refine z_aload_n F dX6_year_144 rfl 0 rfl ?_
          refine z_get (ci := 6) F iX6 0 rfl rfl 1 (by decide) f0 rfl rfl dX6_year_145 ?_
          refine z_iconst (v := 1) F dX6_year_148 rfl ?_
          refine z_iconst (v := 0) F dX6_year_149 rfl ?_
          refine z_callVi (fun u9 => wCE_gs G a vg u9) F (mX3_seenToday G (fun k => a (9 + k)) vs_7 (1 : Int32) (0 : Int32) _ h) gX6_year_X3_seenToday rfl hdX3_seenToday ⟨rfl, rfl, Nat.le_of_ble_eq_true rfl, Nat.le_of_ble_eq_true rfl, Nat.le_of_ble_eq_true rfl, Nat.le_of_ble_eq_true rfl⟩ 9 rfl rfl [9, 10, 11, 12, 13, 14, 15, 16] [0, 1, 2, 3, 4, 5, 6, 7, 8] [0, 1, 2, 3, 4, 5, 6, 7, 8, 9, 10, 11, 12, 13, 14, 15, 16] rfl rfl (by decide) (fun _ => rfl) rfl (Nat.le_of_ble_eq_true rfl) dX6_year_150 (fun r_8 vs_9 h => ?_)
          refine z_iadd F dX6_year_153 ?_
          refine z_aload_n F dX6_year_154 rfl 0 rfl ?_
          refine z_get (ci := 6) F iX6 0 rfl rfl 1 (by decide) f0 rfl rfl dX6_year_155 ?_
          refine z_iconst (v := 2) F dX6_year_158 rfl ?_
          refine z_iconst (v := 0) F dX6_year_159 rfl ?_
          refine z_callVi (fun u9 => wCE_gs G a vg u9) F (mX3_seenToday G (fun k => a (9 + k)) vs_9 (2 : Int32) (0 : Int32) _ h) gX6_year_X3_seenToday rfl hdX3_seenToday ⟨rfl, rfl, Nat.le_of_ble_eq_true rfl, Nat.le_of_ble_eq_true rfl, Nat.le_of_ble_eq_true rfl, Nat.le_of_ble_eq_true rfl⟩ 9 rfl rfl [9, 10, 11, 12, 13, 14, 15, 16] [0, 1, 2, 3, 4, 5, 6, 7, 8] [0, 1, 2, 3, 4, 5, 6, 7, 8, 9, 10, 11, 12, 13, 14, 15, 16] rfl rfl (by decide) (fun _ => rfl) rfl (Nat.le_of_ble_eq_true rfl) dX6_year_160 (fun r_10 vs_11 h => ?_)
          refine z_iadd F dX6_year_163 ?_
          exact hret ((r_6 + r_8) + r_10) (vg, vs_11) _ _ h dX6_year_164
      · have h := h.2 c9
        refine z_bipush (v := 75) F dX6_year_62 rfl ?_
        refine z_iload F dX6_year_64 3 rfl ?_
        refine z_imul F dX6_year_66 ?_
        refine z_bipush (v := 74) F dX6_year_67 rfl ?_
        refine z_iadd F dX6_year_69 ?_
        refine z_ldc (v := 65537) F dX6_year_70 f2 ?_
        refine z_irem F dX6_year_72 (by decide) ?_
        refine z_topi (fun x4_12 e9 => ?_)
        have h := h x4_12 e9
        refine z_istore [(4, .int x4_12), (0, .ref (a 0)), (2, .int x2), (3, .int x3), (5, .int x5), (6, .int x6), (7, .int x7)] F dX6_year_73 (by decide) rfl ?_
        refine z_aload_n F dX6_year_75 rfl 1 rfl ?_
        refine z_get (ci := 6) F iX6 0 rfl rfl 1 (by decide) f0 rfl rfl dX6_year_76 ?_
        refine z_callVv (fun u9 => wCE_gs G a vg u9) F (mX3_endDay G (fun k => a (9 + k)) vs _ h) gX6_year_X3_endDay rfl hdX3_endDay ⟨rfl, rfl, Nat.le_of_ble_eq_true rfl, Nat.le_of_ble_eq_true rfl, Nat.le_of_ble_eq_true rfl, Nat.le_of_ble_eq_true rfl⟩ 9 rfl rfl [9, 10, 11, 12, 13, 14, 15, 16] [0, 1, 2, 3, 4, 5, 6, 7, 8] [0, 1, 2, 3, 4, 5, 6, 7, 8, 9, 10, 11, 12, 13, 14, 15, 16] rfl rfl (by decide) (fun _ => rfl) rfl (Nat.le_of_ble_eq_true rfl) dX6_year_79 (fun vs_13 h => ?_)
        refine z_aload_n F dX6_year_82 rfl 1 rfl ?_
        refine z_get (ci := 6) F iX6 0 rfl rfl 1 (by decide) f0 rfl rfl dX6_year_83 ?_
        refine z_iload F dX6_year_86 0 rfl ?_
        refine z_callVv (fun u9 => wCE_gs G a vg u9) F (mX3_draw G (fun k => a (9 + k)) vs_13 x4_12 _ h) gX6_year_X3_draw rfl hdX3_draw ⟨rfl, rfl, Nat.le_of_ble_eq_true rfl, Nat.le_of_ble_eq_true rfl, Nat.le_of_ble_eq_true rfl, Nat.le_of_ble_eq_true rfl⟩ 9 rfl rfl [9, 10, 11, 12, 13, 14, 15, 16] [0, 1, 2, 3, 4, 5, 6, 7, 8] [0, 1, 2, 3, 4, 5, 6, 7, 8, 9, 10, 11, 12, 13, 14, 15, 16] rfl rfl (by decide) (fun _ => rfl) rfl (Nat.le_of_ble_eq_true rfl) dX6_year_88 (fun vs_14 h => ?_)
        refine z_iload F dX6_year_91 4 rfl ?_
        refine z_aload_n F dX6_year_93 rfl 1 rfl ?_
        refine z_get (ci := 6) F iX6 0 rfl rfl 1 (by decide) f0 rfl rfl dX6_year_94 ?_
        refine z_callVi (fun u9 => wCE_gs G a vg u9) F (mX3_isOver G (fun k => a (9 + k)) vs_14 _ h) gX6_year_X3_isOver rfl hdX3_isOver ⟨rfl, rfl, Nat.le_of_ble_eq_true rfl, Nat.le_of_ble_eq_true rfl, Nat.le_of_ble_eq_true rfl, Nat.le_of_ble_eq_true rfl⟩ 9 rfl rfl [9, 10, 11, 12, 13, 14, 15, 16] [0, 1, 2, 3, 4, 5, 6, 7, 8] [0, 1, 2, 3, 4, 5, 6, 7, 8, 9, 10, 11, 12, 13, 14, 15, 16] rfl rfl (by decide) (fun _ => rfl) rfl (Nat.le_of_ble_eq_true rfl) dX6_year_97 (fun r_15 vs_16 h => ?_)
        refine z_if_eq 107 F dX6_year_100 (by decide) (fun c9 => ?_) (fun c9 => ?_)
        · have h := h.1 c9
          refine z_iconst (v := 0) F dX6_year_107 rfl ?_
          exact z_lv [1, 2, 3, 0, 5, 6] rfl (t108 K56 ih56 vg vs_16 x2 x3 x4_12 x6 x7 x5 (0 : Int32) h)
        · have h := h.2 c9
          refine z_iconst (v := 1) F dX6_year_103 rfl ?_
          refine z_goto 108 F dX6_year_104 (by decide) ?_
          exact z_lv [1, 2, 3, 0, 5, 6] rfl (t108 K56 ih56 vg vs_16 x2 x3 x4_12 x6 x7 x5 (1 : Int32) h)
  unfold wpX6_year at h
  refine z_iload_n F dX6_year_0 rfl 1 rfl ?_
  refine z_iconst (v := 0) F dX6_year_1 rfl ?_
  refine z_sipush (v := 9999) F dX6_year_2 rfl ?_
  refine z_callSi (fun _ => wCE_gs G a vg vs) F (mX6_isWithin G p1 (0 : Int32) (9999 : Int32) _ h) gX6_year_X6_isWithin rfl hdX6_isWithin ⟨rfl, rfl, Nat.le_of_ble_eq_true rfl, Nat.le_of_ble_eq_true rfl, Nat.le_of_ble_eq_true rfl, Nat.le_of_ble_eq_true rfl⟩ [] [0, 1, 2, 3, 4, 5, 6, 7, 8, 9, 10, 11, 12, 13, 14, 15, 16] [0, 1, 2, 3, 4, 5, 6, 7, 8, 9, 10, 11, 12, 13, 14, 15, 16] rfl rfl (by decide) (fun _ => rfl) rfl (Nat.le_of_ble_eq_true rfl) dX6_year_5 (fun r_1 u9 h => ?_)
  refine z_if_eq 30 F dX6_year_8 (by decide) (fun c9 => ?_) (fun c9 => ?_)
  · have h := h.1 c9
    refine z_bipush (v := -2) F dX6_year_30 rfl ?_
    exact hret (-2 : Int32) (vg, vs) _ _ h dX6_year_32
  · have h := h.2 c9
    refine z_iload_n F dX6_year_11 rfl 2 rfl ?_
    refine z_iconst (v := 1) F dX6_year_12 rfl ?_
    refine z_bipush (v := 60) F dX6_year_13 rfl ?_
    refine z_callSi (fun _ => wCE_gs G a vg vs) F (mX6_isWithin G p2 (1 : Int32) (60 : Int32) _ h) gX6_year_X6_isWithin rfl hdX6_isWithin ⟨rfl, rfl, Nat.le_of_ble_eq_true rfl, Nat.le_of_ble_eq_true rfl, Nat.le_of_ble_eq_true rfl, Nat.le_of_ble_eq_true rfl⟩ [] [0, 1, 2, 3, 4, 5, 6, 7, 8, 9, 10, 11, 12, 13, 14, 15, 16] [0, 1, 2, 3, 4, 5, 6, 7, 8, 9, 10, 11, 12, 13, 14, 15, 16] rfl rfl (by decide) (fun _ => rfl) rfl (Nat.le_of_ble_eq_true rfl) dX6_year_15 (fun r_2 u9 h => ?_)
    refine z_if_eq 30 F dX6_year_18 (by decide) (fun c9 => ?_) (fun c9 => ?_)
    · have h := h.1 c9
      refine z_bipush (v := -2) F dX6_year_30 rfl ?_
      exact hret (-2 : Int32) (vg, vs) _ _ h dX6_year_32
    · have h := h.2 c9
      refine z_iload_n F dX6_year_21 rfl 3 rfl ?_
      refine z_iconst (v := 0) F dX6_year_22 rfl ?_
      refine z_iconst (v := 2) F dX6_year_23 rfl ?_
      refine z_callSi (fun _ => wCE_gs G a vg vs) F (mX6_isWithin G p3 (0 : Int32) (2 : Int32) _ h) gX6_year_X6_isWithin rfl hdX6_isWithin ⟨rfl, rfl, Nat.le_of_ble_eq_true rfl, Nat.le_of_ble_eq_true rfl, Nat.le_of_ble_eq_true rfl, Nat.le_of_ble_eq_true rfl⟩ [] [0, 1, 2, 3, 4, 5, 6, 7, 8, 9, 10, 11, 12, 13, 14, 15, 16] [0, 1, 2, 3, 4, 5, 6, 7, 8, 9, 10, 11, 12, 13, 14, 15, 16] rfl rfl (by decide) (fun _ => rfl) rfl (Nat.le_of_ble_eq_true rfl) dX6_year_24 (fun r_3 u9 h => ?_)
      refine z_if_ne 33 F dX6_year_27 (by decide) (fun c9 => ?_) (fun c9 => ?_)
      · have h := h.1 c9
        refine z_aload_n F dX6_year_33 rfl 0 rfl ?_
        refine z_get (ci := 6) F iX6 0 rfl rfl 1 (by decide) f0 rfl rfl dX6_year_34 ?_
        refine z_aload_n F dX6_year_37 rfl 0 rfl ?_
        refine z_get (ci := 6) F iX6 0 rfl rfl 0 (by decide) f1 rfl rfl dX6_year_38 ?_
        refine z_callVv (fun u9 => wCE_gs G a u9.2 u9.1) F (mX3_become G (fun k => a (9 + k)) (fun k => a (1 + k)) vs vg _ h) gX6_year_X3_become rfl hdX3_become ⟨rfl, rfl, Nat.le_of_ble_eq_true rfl, Nat.le_of_ble_eq_true rfl, Nat.le_of_ble_eq_true rfl, Nat.le_of_ble_eq_true rfl⟩ 9 rfl rfl [9, 10, 11, 12, 13, 14, 15, 16, 1, 2, 3, 4, 5, 6, 7, 8] [0] [0, 9, 10, 11, 12, 13, 14, 15, 16, 1, 2, 3, 4, 5, 6, 7, 8] rfl rfl (by decide) (fun _ => rfl) rfl (Nat.le_of_ble_eq_true rfl) dX6_year_41 (fun u9 h => ?_)
        obtain ⟨vs_4, vg_5⟩ := u9
        refine z_w (w' := wCE_gs G a vg_5 vs_4) rfl ?_
        refine z_iload_n F dX6_year_44 rfl 1 rfl ?_
        refine z_istore [(4, .int p1), (0, .ref (a 0)), (1, .int p1), (2, .int p2), (3, .int p3)] F dX6_year_45 (by decide) rfl ?_
        refine z_iconst (v := 0) F dX6_year_47 rfl ?_
        refine z_istore [(5, .int (0 : Int32)), (4, .int p1), (0, .ref (a 0)), (1, .int p1), (2, .int p2), (3, .int p3)] F dX6_year_48 (by decide) rfl ?_
        refine z_iconst (v := 0) F dX6_year_50 rfl ?_
        refine z_istore [(6, .int (0 : Int32)), (5, .int (0 : Int32)), (4, .int p1), (0, .ref (a 0)), (1, .int p1), (2, .int p2), (3, .int p3)] F dX6_year_51 (by decide) rfl ?_
        refine z_iconst (v := 0) F dX6_year_53 rfl ?_
        refine z_istore [(7, .int (0 : Int32)), (6, .int (0 : Int32)), (5, .int (0 : Int32)), (4, .int p1), (0, .ref (a 0)), (1, .int p1), (2, .int p2), (3, .int p3)] F dX6_year_54 (by decide) rfl ?_
        obtain ⟨n9, h⟩ := h
        exact z_lv [4, 6, 7, 3, 2, 1, 0] rfl (t56 n9 vg_5 vs_4 p2 p3 p1 (0 : Int32) (0 : Int32) (0 : Int32) h)
      · have h := h.2 c9
        refine z_bipush (v := -2) F dX6_year_30 rfl ?_
        exact hret (-2 : Int32) (vg, vs) _ _ h dX6_year_32
abbrev rmX6_imageOf : Room := { frames := 0, cells := 0, slots := 0, locals := 0 }
set_option maxRecDepth 100000 in
set_option maxHeartbeats 4000000 in
theorem mX6_imageOf0 (G : ZG) (a : Nat → Nat) (vi : Gr) (vj : Gr) (p1 : Int32) (Q : Nat → Gr → Gr → Prop) (h : wpX6_imageOf a vi vj p1 Q) : ZMr G yX6_imageOf wsX6_imageOf rmX6_imageOf [.ref (a 0), .int p1] (wCE_ij G a vi vj) (fun u9 : Gr × Gr => wCE_ij G a u9.1 u9.2) (fun r u9 => Q r u9.1 u9.2) := by
  refine z_ofr (cc := cX6_imageOf) (N := 2) (lv := [(0, .ref (a 0)), (1, .int p1)]) (by decide) rfl (Nat.le_of_ble_eq_true rfl) rfl (fun E F hret => ?_)
  have F : ZF E 2 cX6_imageOf RX6 wsX6_imageOf rmX6_imageOf G := F
  have f0 : ZW E (.fieldLink RX6 57 "ColourEcho" "image1" "LColourEcho$Gorge;") := F.at 2 rfl
  have f1 : ZW E (.fieldLink RX6 54 "ColourEcho" "image0" "LColourEcho$Gorge;") := F.at 1 rfl
  have iX6 : ∀ x ∈ u_ws RX6 TX6 11, x ∈ wsX6_imageOf := fun _ h => List.mem_cons_of_mem _ (List.mem_append_right _ h)
  unfold wpX6_imageOf at h
  refine z_iload_n F dX6_imageOf_0 rfl 1 rfl ?_
  refine z_if_ne 11 F dX6_imageOf_1 (by decide) (fun c9 => ?_) (fun c9 => ?_)
  · have h := h.1 c9
    refine z_aload_n F dX6_imageOf_11 rfl 0 rfl ?_
    refine z_get (ci := 6) F iX6 0 rfl rfl 8 (by decide) f0 rfl rfl dX6_imageOf_12 ?_
    exact hret (a 45) (vi, vj) _ _ h dX6_imageOf_15
  · have h := h.2 c9
    refine z_aload_n F dX6_imageOf_4 rfl 0 rfl ?_
    refine z_get (ci := 6) F iX6 0 rfl rfl 7 (by decide) f1 rfl rfl dX6_imageOf_5 ?_
    refine z_goto 15 F dX6_imageOf_8 (by decide) ?_
    exact hret (a 37) (vi, vj) _ _ h dX6_imageOf_15
theorem mX6_imageOf (G : ZG) (a : Nat → Nat) (i j : Gr) (p1 : Int32) : ZMr G yX6_imageOf wsX6_imageOf rmX6_imageOf [.ref (a 0), .int p1] (wCE_ij G a i j) (fun u9 : Gr × Gr => wCE_ij G a u9.1 u9.2) (fun r u9 => u9 = (i, j) ∧ ((p1 = 0 ∧ r = a 37) ∨ (¬ p1 = 0 ∧ r = a 45))) := by
  refine mX6_imageOf0 G a i j p1 (fun r i' j' => (i', j') = (i, j) ∧ ((p1 = 0 ∧ r = a 37) ∨ (¬ p1 = 0 ∧ r = a 45))) ?_
  unfold wpX6_imageOf
  refine ⟨fun c => ?_, fun c => ?_⟩
  · exact ⟨rfl, Or.inr ⟨c, rfl⟩⟩
  · exact ⟨rfl, Or.inl ⟨c, rfl⟩⟩
abbrev rmX6_image : Room := { frames := 2, cells := 0, slots := 0, locals := 81 }
set_option maxRecDepth 100000 in
set_option maxHeartbeats 4000000 in
theorem mX6_image (G : ZG) (a : Nat → Nat) (vg : Gr) (vi : Gr) (vj : Gr) (vk : Kp) (p1 : Int32) (Q : Int32 → Gr → Gr → Gr → Kp → Prop) (h : wpX6_image vg vi vj vk p1 Q) : ZMi G yX6_image wsX6_image rmX6_image [.ref (a 0), .int p1] (wCE_gijk G a vg vi vj vk) (fun u9 : Gr × Gr × Gr × Kp => wCE_gijk G a u9.1 u9.2.1 u9.2.2.1 u9.2.2.2) (fun r u9 => Q r u9.1 u9.2.1 u9.2.2.1 u9.2.2.2) := by
  refine z_ofi (cc := cX6_image) (N := 2) (lv := [(0, .ref (a 0)), (1, .int p1)]) (by decide) rfl (Nat.le_of_ble_eq_true rfl) rfl (fun E F hret => ?_)
  have F : ZF E 2 cX6_image RX6 wsX6_image rmX6_image G := F
  have f0 : ZW E (.fieldLink RX6 12 "ColourEcho" "gorge" "LColourEcho$Gorge;") := F.at 1 rfl
  have f1 : ZW E (.fieldLink RX6 60 "ColourEcho" "kept" "[Z") := F.at 2 rfl
  have iX6 : ∀ x ∈ u_ws RX6 TX6 11, x ∈ wsX6_image := fun _ h => List.mem_cons_of_mem _ (List.mem_append_left _ (List.mem_append_right _ h))
  unfold wpX6_image at h
  refine z_iload_n F dX6_image_0 rfl 1 rfl ?_
  refine z_iconst (v := 0) F dX6_image_1 rfl ?_
  refine z_iconst (v := 1) F dX6_image_2 rfl ?_
  refine z_callSi (fun _ => wCE_gijk G a vg vi vj vk) F (mX6_isWithin G p1 (0 : Int32) (1 : Int32) _ h) gX6_image_X6_isWithin rfl hdX6_isWithin ⟨rfl, rfl, Nat.le_of_ble_eq_true rfl, Nat.le_of_ble_eq_true rfl, Nat.le_of_ble_eq_true rfl, Nat.le_of_ble_eq_true rfl⟩ [] [0, 1, 2, 3, 4, 5, 6, 7, 8, 9, 10, 11, 12, 13, 14, 15, 16, 17, 18, 19, 20, 21, 22, 23, 24, 25] [0, 1, 2, 3, 4, 5, 6, 7, 8, 9, 10, 11, 12, 13, 14, 15, 16, 17, 18, 19, 20, 21, 22, 23, 24, 25] rfl rfl (by decide) (fun _ => rfl) rfl (Nat.le_of_ble_eq_true rfl) dX6_image_3 (fun r_1 u9 h => ?_)
  refine z_if_ne 12 F dX6_image_6 (by decide) (fun c9 => ?_) (fun c9 => ?_)
  · have h := h.1 c9
    refine z_aload_n F dX6_image_12 rfl 0 rfl ?_
    refine z_iload_n F dX6_image_13 rfl 1 rfl ?_
    refine z_callVr (fun u9 => wCE_gijk G a vg u9.1 u9.2 vk) F (mX6_imageOf G a vi vj p1) gX6_image_X6_imageOf rfl hdX6_imageOf ⟨rfl, rfl, Nat.le_of_ble_eq_true rfl, Nat.le_of_ble_eq_true rfl, Nat.le_of_ble_eq_true rfl, Nat.le_of_ble_eq_true rfl⟩ 0 rfl rfl [0, 9, 10, 11, 12, 13, 14, 15, 16, 17, 18, 19, 20, 21, 22, 23, 24] [1, 2, 3, 4, 5, 6, 7, 8, 25] [9, 0, 1, 2, 3, 4, 5, 6, 7, 10, 11, 12, 13, 14, 15, 16, 17, 18, 19, 20, 21, 22, 23, 24, 25, 8] rfl rfl (by decide) (fun _ => rfl) rfl (Nat.le_of_ble_eq_true rfl) dX6_image_14 (fun r9 u9 h8 => ?_)
    obtain ⟨rfl, h8⟩ := h8
    refine z_w (w' := wCE_gijk G a vg vi vj vk) rfl ?_
    rcases h8 with ⟨c9, rfl⟩ | ⟨c9, rfl⟩
    · have h := h.1 c9
      refine z_aload_n F dX6_image_17 rfl 0 rfl ?_
      refine z_get (ci := 6) F iX6 0 rfl rfl 0 (by decide) f0 rfl rfl dX6_image_18 ?_
      refine z_callVv (fun u9 => wCE_gijk G a u9.2 u9.1 vj vk) F (mX3_become G (fun k => a (37 + k)) (fun k => a (1 + k)) vi vg _ h) gX6_image_X3_become rfl hdX3_become ⟨rfl, rfl, Nat.le_of_ble_eq_true rfl, Nat.le_of_ble_eq_true rfl, Nat.le_of_ble_eq_true rfl, Nat.le_of_ble_eq_true rfl⟩ 9 rfl rfl [9, 10, 11, 12, 13, 14, 15, 16, 1, 2, 3, 4, 5, 6, 7, 8] [0, 17, 18, 19, 20, 21, 22, 23, 24, 25] [0, 18, 19, 20, 21, 22, 23, 24, 25, 10, 11, 12, 13, 14, 15, 16, 17, 1, 2, 3, 4, 5, 6, 7, 8, 9] rfl rfl (by decide) (fun _ => rfl) rfl (Nat.le_of_ble_eq_true rfl) dX6_image_21 (fun u9 h => ?_)
      obtain ⟨vi_5, vg_6⟩ := u9
      refine z_w (w' := wCE_gijk G a vg_6 vi_5 vj vk) rfl ?_
      refine z_aload_n F dX6_image_24 rfl 0 rfl ?_
      refine z_get (ci := 6) F iX6 0 rfl rfl 9 (by decide) f1 rfl rfl dX6_image_25 ?_
      refine z_iload_n F dX6_image_28 rfl 1 rfl ?_
      refine z_iconst (v := 1) F dX6_image_29 rfl ?_
      have h9 := h.1
      have h := h.2
      refine z_zast (wCE_gijk G a vg_6 vi_5 vj (Kp_s_kept vk (upd (Kp_kept vk) (p1).toNatClampNeg (1 : Int32)))) F 25 rfl h9 rfl rfl dX6_image_30 ?_
      refine z_iconst (v := 1) F dX6_image_31 rfl ?_
      exact hret (1 : Int32) (vg_6, vi_5, vj, (Kp_s_kept vk (upd (Kp_kept vk) (p1).toNatClampNeg (1 : Int32)))) _ _ h dX6_image_32
    · have h := h.2 c9
      refine z_aload_n F dX6_image_17 rfl 0 rfl ?_
      refine z_get (ci := 6) F iX6 0 rfl rfl 0 (by decide) f0 rfl rfl dX6_image_18 ?_
      refine z_callVv (fun u9 => wCE_gijk G a u9.2 vi u9.1 vk) F (mX3_become G (fun k => a (45 + k)) (fun k => a (1 + k)) vj vg _ h) gX6_image_X3_become rfl hdX3_become ⟨rfl, rfl, Nat.le_of_ble_eq_true rfl, Nat.le_of_ble_eq_true rfl, Nat.le_of_ble_eq_true rfl, Nat.le_of_ble_eq_true rfl⟩ 17 rfl rfl [17, 18, 19, 20, 21, 22, 23, 24, 1, 2, 3, 4, 5, 6, 7, 8] [0, 9, 10, 11, 12, 13, 14, 15, 16, 25] [0, 18, 19, 20, 21, 22, 23, 24, 25, 1, 2, 3, 4, 5, 6, 7, 8, 10, 11, 12, 13, 14, 15, 16, 17, 9] rfl rfl (by decide) (fun _ => rfl) rfl (Nat.le_of_ble_eq_true rfl) dX6_image_21 (fun u9 h => ?_)
      obtain ⟨vj_7, vg_8⟩ := u9
      refine z_w (w' := wCE_gijk G a vg_8 vi vj_7 vk) rfl ?_
      refine z_aload_n F dX6_image_24 rfl 0 rfl ?_
      refine z_get (ci := 6) F iX6 0 rfl rfl 9 (by decide) f1 rfl rfl dX6_image_25 ?_
      refine z_iload_n F dX6_image_28 rfl 1 rfl ?_
      refine z_iconst (v := 1) F dX6_image_29 rfl ?_
      have h9 := h.1
      have h := h.2
      refine z_zast (wCE_gijk G a vg_8 vi vj_7 (Kp_s_kept vk (upd (Kp_kept vk) (p1).toNatClampNeg (1 : Int32)))) F 25 rfl h9 rfl rfl dX6_image_30 ?_
      refine z_iconst (v := 1) F dX6_image_31 rfl ?_
      exact hret (1 : Int32) (vg_8, vi, vj_7, (Kp_s_kept vk (upd (Kp_kept vk) (p1).toNatClampNeg (1 : Int32)))) _ _ h dX6_image_32
  · have h := h.2 c9
    refine z_bipush (v := -2) F dX6_image_9 rfl ?_
    exact hret (-2 : Int32) (vg, vi, vj, vk) _ _ h dX6_image_11
abbrev rmX6_restore : Room := { frames := 2, cells := 0, slots := 0, locals := 81 }
set_option maxRecDepth 100000 in
set_option maxHeartbeats 4000000 in
theorem mX6_restore (G : ZG) (a : Nat → Nat) (vg : Gr) (vi : Gr) (vj : Gr) (vk : Kp) (p1 : Int32) (Q : Int32 → Gr → Gr → Gr → Kp → Prop) (h : wpX6_restore vg vi vj vk p1 Q) : ZMi G yX6_restore wsX6_restore rmX6_restore [.ref (a 0), .int p1] (wCE_gijk G a vg vi vj vk) (fun u9 : Gr × Gr × Gr × Kp => wCE_gijk G a u9.1 u9.2.1 u9.2.2.1 u9.2.2.2) (fun r u9 => Q r u9.1 u9.2.1 u9.2.2.1 u9.2.2.2) := by
  refine z_ofi (cc := cX6_restore) (N := 2) (lv := [(0, .ref (a 0)), (1, .int p1)]) (by decide) rfl (Nat.le_of_ble_eq_true rfl) rfl (fun E F hret => ?_)
  have F : ZF E 2 cX6_restore RX6 wsX6_restore rmX6_restore G := F
  have f0 : ZW E (.fieldLink RX6 60 "ColourEcho" "kept" "[Z") := F.at 1 rfl
  have f1 : ZW E (.fieldLink RX6 12 "ColourEcho" "gorge" "LColourEcho$Gorge;") := F.at 2 rfl
  have iX6 : ∀ x ∈ u_ws RX6 TX6 11, x ∈ wsX6_restore := fun _ h => List.mem_cons_of_mem _ (List.mem_append_left _ (List.mem_append_right _ h))
  unfold wpX6_restore at h
  refine z_iload_n F dX6_restore_0 rfl 1 rfl ?_
  refine z_iconst (v := 0) F dX6_restore_1 rfl ?_
  refine z_iconst (v := 1) F dX6_restore_2 rfl ?_
  refine z_callSi (fun _ => wCE_gijk G a vg vi vj vk) F (mX6_isWithin G p1 (0 : Int32) (1 : Int32) _ h) gX6_restore_X6_isWithin rfl hdX6_isWithin ⟨rfl, rfl, Nat.le_of_ble_eq_true rfl, Nat.le_of_ble_eq_true rfl, Nat.le_of_ble_eq_true rfl, Nat.le_of_ble_eq_true rfl⟩ [] [0, 1, 2, 3, 4, 5, 6, 7, 8, 9, 10, 11, 12, 13, 14, 15, 16, 17, 18, 19, 20, 21, 22, 23, 24, 25] [0, 1, 2, 3, 4, 5, 6, 7, 8, 9, 10, 11, 12, 13, 14, 15, 16, 17, 18, 19, 20, 21, 22, 23, 24, 25] rfl rfl (by decide) (fun _ => rfl) rfl (Nat.le_of_ble_eq_true rfl) dX6_restore_3 (fun r_1 u9 h => ?_)
  refine z_if_ne 12 F dX6_restore_6 (by decide) (fun c9 => ?_) (fun c9 => ?_)
  · have h := h.1 c9
    refine z_aload_n F dX6_restore_12 rfl 0 rfl ?_
    refine z_get (ci := 6) F iX6 0 rfl rfl 9 (by decide) f0 rfl rfl dX6_restore_13 ?_
    refine z_iload_n F dX6_restore_16 rfl 1 rfl ?_
    have h9 := h.1
    have h := h.2
    refine z_zald F 25 rfl h9 dX6_restore_17 ?_
    refine z_if_ne 24 F dX6_restore_18 (by decide) (fun c9 => ?_) (fun c9 => ?_)
    · have h := h.1 c9
      refine z_aload_n F dX6_restore_24 rfl 0 rfl ?_
      refine z_get (ci := 6) F iX6 0 rfl rfl 0 (by decide) f1 rfl rfl dX6_restore_25 ?_
      refine z_aload_n F dX6_restore_28 rfl 0 rfl ?_
      refine z_iload_n F dX6_restore_29 rfl 1 rfl ?_
      refine z_callVr (fun u9 => wCE_gijk G a vg u9.1 u9.2 vk) F (mX6_imageOf G a vi vj p1) gX6_restore_X6_imageOf rfl hdX6_imageOf ⟨rfl, rfl, Nat.le_of_ble_eq_true rfl, Nat.le_of_ble_eq_true rfl, Nat.le_of_ble_eq_true rfl, Nat.le_of_ble_eq_true rfl⟩ 0 rfl rfl [0, 9, 10, 11, 12, 13, 14, 15, 16, 17, 18, 19, 20, 21, 22, 23, 24] [1, 2, 3, 4, 5, 6, 7, 8, 25] [9, 0, 1, 2, 3, 4, 5, 6, 7, 10, 11, 12, 13, 14, 15, 16, 17, 18, 19, 20, 21, 22, 23, 24, 25, 8] rfl rfl (by decide) (fun _ => rfl) rfl (Nat.le_of_ble_eq_true rfl) dX6_restore_30 (fun r9 u9 h8 => ?_)
      obtain ⟨rfl, h8⟩ := h8
      refine z_w (w' := wCE_gijk G a vg vi vj vk) rfl ?_
      rcases h8 with ⟨c9, rfl⟩ | ⟨c9, rfl⟩
      · have h := h.1 c9
        refine z_callVv (fun u9 => wCE_gijk G a u9.1 u9.2 vj vk) F (mX3_become G (fun k => a (1 + k)) (fun k => a (37 + k)) vg vi _ h) gX6_restore_X3_become rfl hdX3_become ⟨rfl, rfl, Nat.le_of_ble_eq_true rfl, Nat.le_of_ble_eq_true rfl, Nat.le_of_ble_eq_true rfl, Nat.le_of_ble_eq_true rfl⟩ 1 rfl rfl [1, 2, 3, 4, 5, 6, 7, 8, 9, 10, 11, 12, 13, 14, 15, 16] [0, 17, 18, 19, 20, 21, 22, 23, 24, 25] [0, 10, 11, 12, 13, 14, 15, 16, 17, 18, 19, 20, 21, 22, 23, 24, 25, 1, 2, 3, 4, 5, 6, 7, 8, 9] rfl rfl (by decide) (fun _ => rfl) rfl (Nat.le_of_ble_eq_true rfl) dX6_restore_33 (fun u9 h => ?_)
        obtain ⟨vg_5, vi_6⟩ := u9
        refine z_w (w' := wCE_gijk G a vg_5 vi_6 vj vk) rfl ?_
        refine z_iconst (v := 1) F dX6_restore_36 rfl ?_
        exact hret (1 : Int32) (vg_5, vi_6, vj, vk) _ _ h dX6_restore_37
      · have h := h.2 c9
        refine z_callVv (fun u9 => wCE_gijk G a u9.1 vi u9.2 vk) F (mX3_become G (fun k => a (1 + k)) (fun k => a (45 + k)) vg vj _ h) gX6_restore_X3_become rfl hdX3_become ⟨rfl, rfl, Nat.le_of_ble_eq_true rfl, Nat.le_of_ble_eq_true rfl, Nat.le_of_ble_eq_true rfl, Nat.le_of_ble_eq_true rfl⟩ 1 rfl rfl [1, 2, 3, 4, 5, 6, 7, 8, 17, 18, 19, 20, 21, 22, 23, 24] [0, 9, 10, 11, 12, 13, 14, 15, 16, 25] [0, 10, 11, 12, 13, 14, 15, 16, 17, 1, 2, 3, 4, 5, 6, 7, 8, 18, 19, 20, 21, 22, 23, 24, 25, 9] rfl rfl (by decide) (fun _ => rfl) rfl (Nat.le_of_ble_eq_true rfl) dX6_restore_33 (fun u9 h => ?_)
        obtain ⟨vg_7, vj_8⟩ := u9
        refine z_w (w' := wCE_gijk G a vg_7 vi vj_8 vk) rfl ?_
        refine z_iconst (v := 1) F dX6_restore_36 rfl ?_
        exact hret (1 : Int32) (vg_7, vi, vj_8, vk) _ _ h dX6_restore_37
    · have h := h.2 c9
      refine z_bipush (v := -3) F dX6_restore_21 rfl ?_
      exact hret (-3 : Int32) (vg, vi, vj, vk) _ _ h dX6_restore_23
  · have h := h.2 c9
    refine z_bipush (v := -2) F dX6_restore_9 rfl ?_
    exact hret (-2 : Int32) (vg, vi, vj, vk) _ _ h dX6_restore_11
abbrev rmX6_toldOfToday : Room := { frames := 0, cells := 0, slots := 0, locals := 0 }
set_option maxRecDepth 100000 in
set_option maxHeartbeats 4000000 in
theorem mX6_toldOfToday (G : ZG) (a : Nat → Nat) (vg : Gr) (vp : Pd) (p1 : Int32) (Q : Int32 → Gr → Pd → Prop) (h : wpX6_toldOfToday vg vp p1 Q) : ZMi G yX6_toldOfToday wsX6_toldOfToday rmX6_toldOfToday [.ref (a 0), .int p1] (wCE_gp G a vg vp) (fun u9 : Gr × Pd => wCE_gp G a u9.1 u9.2) (fun r u9 => Q r u9.1 u9.2) := by
  refine z_ofi (cc := cX6_toldOfToday) (N := 2) (lv := [(0, .ref (a 0)), (1, .int p1)]) (by decide) rfl (Nat.le_of_ble_eq_true rfl) rfl (fun E F hret => ?_)
  have F : ZF E 2 cX6_toldOfToday RX6 wsX6_toldOfToday rmX6_toldOfToday G := F
  have f0 : ZW E (.fieldLink RX6 22 "ColourEcho" "pad" "LColourEcho$Pad;") := F.at 1 rfl
  have f1 : ZW E (.fieldLink RX6 99 "ColourEcho$Pad" "count" "I") := F.at 2 rfl
  have f2 : ZW E (.fieldLink RX6 12 "ColourEcho" "gorge" "LColourEcho$Gorge;") := F.at 3 rfl
  have f3 : ZW E (.fieldLink RX6 130 "ColourEcho$Gorge" "day" "I") := F.at 4 rfl
  have f4 : ZW E (.fieldLink RX6 95 "ColourEcho$Gorge" "most" "I") := F.at 5 rfl
  have f5 : ZW E (.fieldLink RX6 197 "ColourEcho$Gorge" "sights" "I") := F.at 6 rfl
  have f6 : ZW E (.fieldLink RX6 277 "ColourEcho$Gorge" "fog" "Z") := F.at 7 rfl
  have f7 : ZW E (.fieldLink RX6 281 "ColourEcho$Gorge" "snow" "Z") := F.at 8 rfl
  have f8 : ZW E (.fieldLink RX6 284 "ColourEcho$Gorge" "worn" "I") := F.at 9 rfl
  have iX3 : ∀ x ∈ u_ws RX3 TX3 13, x ∈ wsX6_toldOfToday := fun _ h => List.mem_cons_of_mem _ (List.mem_append_right _ h)
  have iX5 : ∀ x ∈ u_ws RX5 TX5 2, x ∈ wsX6_toldOfToday := fun _ h => List.mem_cons_of_mem _ (List.mem_append_left _ (List.mem_append_right _ h))
  have iX6 : ∀ x ∈ u_ws RX6 TX6 11, x ∈ wsX6_toldOfToday := fun _ h => List.mem_cons_of_mem _ (List.mem_append_left _ (List.mem_append_left _ (List.mem_append_right _ h)))
  unfold wpX6_toldOfToday at h
  refine z_iload_n F dX6_toldOfToday_0 rfl 1 rfl ?_
  by_cases c0 : p1 = 0
  · have h := h.1 c0
    refine z_tableIn (off := 39) 40 F dX6_toldOfToday_1 (by rw [c0] <;> decide) (by rw [c0] <;> decide) (by rw [c0] <;> decide) (by decide) ?_
    refine z_aload_n F dX6_toldOfToday_40 rfl 0 rfl ?_
    refine z_get (ci := 6) F iX6 0 rfl rfl 2 (by decide) f0 rfl rfl dX6_toldOfToday_41 ?_
    refine z_get (ci := 5) F iX5 9 rfl rfl 1 (by decide) f1 rfl rfl dX6_toldOfToday_44 ?_
    exact hret (Pd_count vp) (vg, vp) _ _ h dX6_toldOfToday_47
  have h := h.2 c0
  by_cases c1 : p1 = 1
  · have h := h.1 c1
    refine z_tableIn (off := 47) 48 F dX6_toldOfToday_1 (by rw [c1] <;> decide) (by rw [c1] <;> decide) (by rw [c1] <;> decide) (by decide) ?_
    refine z_aload_n F dX6_toldOfToday_48 rfl 0 rfl ?_
    refine z_get (ci := 6) F iX6 0 rfl rfl 0 (by decide) f2 rfl rfl dX6_toldOfToday_49 ?_
    refine z_get (ci := 3) F iX3 1 rfl rfl 9 (by decide) f3 rfl rfl dX6_toldOfToday_52 ?_
    exact hret (Gr_day vg) (vg, vp) _ _ h dX6_toldOfToday_55
  have h := h.2 c1
  by_cases c2 : p1 = 2
  · have h := h.1 c2
    refine z_tableIn (off := 55) 56 F dX6_toldOfToday_1 (by rw [c2] <;> decide) (by rw [c2] <;> decide) (by rw [c2] <;> decide) (by decide) ?_
    refine z_aload_n F dX6_toldOfToday_56 rfl 0 rfl ?_
    refine z_get (ci := 6) F iX6 0 rfl rfl 0 (by decide) f2 rfl rfl dX6_toldOfToday_57 ?_
    refine z_get (ci := 3) F iX3 1 rfl rfl 8 (by decide) f4 rfl rfl dX6_toldOfToday_60 ?_
    exact hret (Gr_most vg) (vg, vp) _ _ h dX6_toldOfToday_63
  have h := h.2 c2
  by_cases c3 : p1 = 3
  · have h := h.1 c3
    refine z_tableIn (off := 63) 64 F dX6_toldOfToday_1 (by rw [c3] <;> decide) (by rw [c3] <;> decide) (by rw [c3] <;> decide) (by decide) ?_
    refine z_aload_n F dX6_toldOfToday_64 rfl 0 rfl ?_
    refine z_get (ci := 6) F iX6 0 rfl rfl 0 (by decide) f2 rfl rfl dX6_toldOfToday_65 ?_
    refine z_get (ci := 3) F iX3 1 rfl rfl 7 (by decide) f5 rfl rfl dX6_toldOfToday_68 ?_
    exact hret (Gr_sights vg) (vg, vp) _ _ h dX6_toldOfToday_71
  have h := h.2 c3
  by_cases c4 : p1 = 4
  · have h := h.1 c4
    refine z_tableIn (off := 71) 72 F dX6_toldOfToday_1 (by rw [c4] <;> decide) (by rw [c4] <;> decide) (by rw [c4] <;> decide) (by decide) ?_
    refine z_aload_n F dX6_toldOfToday_72 rfl 0 rfl ?_
    refine z_get (ci := 6) F iX6 0 rfl rfl 0 (by decide) f2 rfl rfl dX6_toldOfToday_73 ?_
    refine z_get (ci := 3) F iX3 1 rfl rfl 11 (by decide) f6 rfl rfl dX6_toldOfToday_76 ?_
    refine z_if_eq 86 F dX6_toldOfToday_79 (by decide) (fun c9 => ?_) (fun c9 => ?_)
    · have h := h.1 c9
      refine z_iconst (v := 0) F dX6_toldOfToday_86 rfl ?_
      exact hret (0 : Int32) (vg, vp) _ _ h dX6_toldOfToday_87
    · have h := h.2 c9
      refine z_iconst (v := 1) F dX6_toldOfToday_82 rfl ?_
      refine z_goto 87 F dX6_toldOfToday_83 (by decide) ?_
      exact hret (1 : Int32) (vg, vp) _ _ h dX6_toldOfToday_87
  have h := h.2 c4
  by_cases c5 : p1 = 5
  · have h := h.1 c5
    refine z_tableIn (off := 87) 88 F dX6_toldOfToday_1 (by rw [c5] <;> decide) (by rw [c5] <;> decide) (by rw [c5] <;> decide) (by decide) ?_
    refine z_aload_n F dX6_toldOfToday_88 rfl 0 rfl ?_
    refine z_get (ci := 6) F iX6 0 rfl rfl 0 (by decide) f2 rfl rfl dX6_toldOfToday_89 ?_
    refine z_get (ci := 3) F iX3 1 rfl rfl 12 (by decide) f7 rfl rfl dX6_toldOfToday_92 ?_
    refine z_if_eq 102 F dX6_toldOfToday_95 (by decide) (fun c9 => ?_) (fun c9 => ?_)
    · have h := h.1 c9
      refine z_iconst (v := 0) F dX6_toldOfToday_102 rfl ?_
      exact hret (0 : Int32) (vg, vp) _ _ h dX6_toldOfToday_103
    · have h := h.2 c9
      refine z_iconst (v := 1) F dX6_toldOfToday_98 rfl ?_
      refine z_goto 103 F dX6_toldOfToday_99 (by decide) ?_
      exact hret (1 : Int32) (vg, vp) _ _ h dX6_toldOfToday_103
  have h := h.2 c5
  refine z_tableOut 104 F dX6_toldOfToday_1 (by have e0 := lv_neT (a := 0) c0 rfl; have e1 := lv_neT (a := 1) c1 rfl; have e2 := lv_neT (a := 2) c2 rfl; have e3 := lv_neT (a := 3) c3 rfl; have e4 := lv_neT (a := 4) c4 rfl; have e5 := lv_neT (a := 5) c5 rfl; omega) (by decide) ?_
  refine z_aload_n F dX6_toldOfToday_104 rfl 0 rfl ?_
  refine z_get (ci := 6) F iX6 0 rfl rfl 0 (by decide) f2 rfl rfl dX6_toldOfToday_105 ?_
  refine z_get (ci := 3) F iX3 1 rfl rfl 10 (by decide) f8 rfl rfl dX6_toldOfToday_108 ?_
  exact hret (Gr_worn vg) (vg, vp) _ _ h dX6_toldOfToday_111
abbrev rmX6_told : Room := { frames := 2, cells := 0, slots := 0, locals := 42 }
set_option maxRecDepth 100000 in
set_option maxHeartbeats 4000000 in
theorem mX6_told (G : ZG) (a : Nat → Nat) (vg : Gr) (vp : Pd) (p1 : Int32) (Q : Int32 → Gr → Pd → Prop) (h : wpX6_told vg vp p1 Q) : ZMi G yX6_told wsX6_told rmX6_told [.ref (a 0), .int p1] (wCE_gp G a vg vp) (fun u9 : Gr × Pd => wCE_gp G a u9.1 u9.2) (fun r u9 => Q r u9.1 u9.2) := by
  refine z_ofi (cc := cX6_told) (N := 4) (lv := [(0, .ref (a 0)), (1, .int p1)]) (by decide) rfl (Nat.le_of_ble_eq_true rfl) rfl (fun E F hret => ?_)
  have F : ZF E 4 cX6_told RX6 wsX6_told rmX6_told G := F
  have f0 : ZW E (.fieldLink RX6 12 "ColourEcho" "gorge" "LColourEcho$Gorge;") := F.at 1 rfl
  have f1 : ZW E (.fieldLink RX6 76 "ColourEcho$Gorge" "keeps" "[I") := F.at 3 rfl
  have f2 : ZW E (.fieldLink RX6 79 "ColourEcho$Gorge" "off" "[I") := F.at 2 rfl
  have iX3 : ∀ x ∈ u_ws RX3 TX3 13, x ∈ wsX6_told := fun _ h => List.mem_cons_of_mem _ (List.mem_append_left _ (List.mem_append_right _ h))
  have iX6 : ∀ x ∈ u_ws RX6 TX6 11, x ∈ wsX6_told := fun _ h => List.mem_cons_of_mem _ (List.mem_append_left _ (List.mem_append_left _ (List.mem_append_right _ h)))
  have t71 : ∀ (vg : Gr) (vp : Pd) (x1 : Int32), wpX6_told_B71 Q vg vp x1 → Z E 4 0 0 (wCE_gp G a vg vp) [(0, .ref (a 0)), (1, .int x1)] 71 [] := by
    intro vg vp x1 h
    unfold wpX6_told_B71 at h
    refine z_iload_n F dX6_told_71 rfl 1 rfl ?_
    refine z_bipush (v := 100) F dX6_told_72 rfl ?_
    refine z_idiv F dX6_told_74 (by decide) ?_
    refine z_iconst (v := 1) F dX6_told_75 rfl ?_
    refine z_isub F dX6_told_76 ?_
    refine z_topi (fun x3_8 e9 => ?_)
    have h := h x3_8 e9
    refine z_istore_n [(3, .int x3_8), (0, .ref (a 0)), (1, .int x1)] F dX6_told_77 rfl (by decide) rfl ?_
    refine z_iload_n F dX6_told_78 rfl 0 rfl ?_
    refine z_callSi (fun _ => wCE_gp G a vg vp) F (mX6_isDress G x3_8 _ h) gX6_told_X6_isDress rfl hdX6_isDress ⟨rfl, rfl, Nat.le_of_ble_eq_true rfl, Nat.le_of_ble_eq_true rfl, Nat.le_of_ble_eq_true rfl, Nat.le_of_ble_eq_true rfl⟩ [] [0, 1, 2, 3, 4, 5, 6, 7, 8, 9, 10] [0, 1, 2, 3, 4, 5, 6, 7, 8, 9, 10] rfl rfl (by decide) (fun _ => rfl) rfl (Nat.le_of_ble_eq_true rfl) dX6_told_79 (fun r_9 u9 h => ?_)
    refine z_if_eq 108 F dX6_told_82 (by decide) (fun c9 => ?_) (fun c9 => ?_)
    · have h := h.1 c9
      refine z_bipush (v := -2) F dX6_told_108 rfl ?_
      exact hret (-2 : Int32) (vg, vp) _ _ h dX6_told_110
    · have h := h.2 c9
      refine z_iload_n F dX6_told_85 rfl 2 rfl ?_
      refine z_bipush (v := 100) F dX6_told_86 rfl ?_
      refine z_irem F dX6_told_88 (by decide) ?_
      refine z_callSi (fun _ => wCE_gp G a vg vp) F (mX6_isColour G (x1 - x1 / (100 : Int32) * (100 : Int32)) _ h) gX6_told_X6_isColour rfl hdX6_isColour ⟨rfl, rfl, Nat.le_of_ble_eq_true rfl, Nat.le_of_ble_eq_true rfl, Nat.le_of_ble_eq_true rfl, Nat.le_of_ble_eq_true rfl⟩ [] [0, 1, 2, 3, 4, 5, 6, 7, 8, 9, 10] [0, 1, 2, 3, 4, 5, 6, 7, 8, 9, 10] rfl rfl (by decide) (fun _ => rfl) rfl (Nat.le_of_ble_eq_true rfl) dX6_told_89 (fun r_10 u9 h => ?_)
      refine z_if_eq 108 F dX6_told_92 (by decide) (fun c9 => ?_) (fun c9 => ?_)
      · have h := h.1 c9
        refine z_bipush (v := -2) F dX6_told_108 rfl ?_
        exact hret (-2 : Int32) (vg, vp) _ _ h dX6_told_110
      · have h := h.2 c9
        refine z_aload_n F dX6_told_95 rfl 1 rfl ?_
        refine z_get (ci := 6) F iX6 0 rfl rfl 0 (by decide) f0 rfl rfl dX6_told_96 ?_
        refine z_iload_n F dX6_told_99 rfl 0 rfl ?_
        refine z_iload_n F dX6_told_100 rfl 2 rfl ?_
        refine z_bipush (v := 100) F dX6_told_101 rfl ?_
        refine z_irem F dX6_told_103 (by decide) ?_
        refine z_callVi (fun u9 => wCE_gp G a u9 vp) F (mX3_worth G (fun k => a (1 + k)) vg x3_8 (x1 - x1 / (100 : Int32) * (100 : Int32)) _ h) gX6_told_X3_worth rfl hdX3_worth ⟨rfl, rfl, Nat.le_of_ble_eq_true rfl, Nat.le_of_ble_eq_true rfl, Nat.le_of_ble_eq_true rfl, Nat.le_of_ble_eq_true rfl⟩ 1 rfl rfl [1, 2, 3, 4, 5, 6, 7, 8] [0, 9, 10] [0, 3, 4, 5, 6, 7, 8, 9, 10, 1, 2] rfl rfl (by decide) (fun _ => rfl) rfl (Nat.le_of_ble_eq_true rfl) dX6_told_104 (fun r_11 vg_12 h => ?_)
        exact hret r_11 (vg_12, vp) _ _ h dX6_told_107
  unfold wpX6_told at h
  refine z_iload_n F dX6_told_0 rfl 1 rfl ?_
  refine z_iconst (v := 0) F dX6_told_1 rfl ?_
  refine z_bipush (v := 6) F dX6_told_2 rfl ?_
  refine z_callSi (fun _ => wCE_gp G a vg vp) F (mX6_isWithin G p1 (0 : Int32) (6 : Int32) _ h) gX6_told_X6_isWithin rfl hdX6_isWithin ⟨rfl, rfl, Nat.le_of_ble_eq_true rfl, Nat.le_of_ble_eq_true rfl, Nat.le_of_ble_eq_true rfl, Nat.le_of_ble_eq_true rfl⟩ [] [0, 1, 2, 3, 4, 5, 6, 7, 8, 9, 10] [0, 1, 2, 3, 4, 5, 6, 7, 8, 9, 10] rfl rfl (by decide) (fun _ => rfl) rfl (Nat.le_of_ble_eq_true rfl) dX6_told_4 (fun r_1 u9 h => ?_)
  refine z_if_eq 16 F dX6_told_7 (by decide) (fun c9 => ?_) (fun c9 => ?_)
  · have h := h.1 c9
    refine z_iload_n F dX6_told_16 rfl 1 rfl ?_
    refine z_bipush (v := 10) F dX6_told_17 rfl ?_
    refine z_idiv F dX6_told_19 (by decide) ?_
    refine z_iconst (v := 1) F dX6_told_20 rfl ?_
    refine z_isub F dX6_told_21 ?_
    refine z_topi (fun x2_2 e9 => ?_)
    have h := h x2_2 e9
    refine z_istore_n [(2, .int x2_2), (0, .ref (a 0)), (1, .int p1)] F dX6_told_22 rfl (by decide) rfl ?_
    refine z_iload_n F dX6_told_23 rfl 0 rfl ?_
    refine z_callSi (fun _ => wCE_gp G a vg vp) F (mX6_isWall G x2_2 _ h) gX6_told_X6_isWall rfl hdX6_isWall ⟨rfl, rfl, Nat.le_of_ble_eq_true rfl, Nat.le_of_ble_eq_true rfl, Nat.le_of_ble_eq_true rfl, Nat.le_of_ble_eq_true rfl⟩ [] [0, 1, 2, 3, 4, 5, 6, 7, 8, 9, 10] [0, 1, 2, 3, 4, 5, 6, 7, 8, 9, 10] rfl rfl (by decide) (fun _ => rfl) rfl (Nat.le_of_ble_eq_true rfl) dX6_told_24 (fun r_3 u9 h => ?_)
    refine z_if_eq 71 F dX6_told_27 (by decide) (fun c9 => ?_) (fun c9 => ?_)
    · have h := h.1 c9
      exact z_lv [1, 2] rfl (t71 vg vp p1 h)
    · have h := h.2 c9
      refine z_iload_n F dX6_told_30 rfl 2 rfl ?_
      refine z_bipush (v := 10) F dX6_told_31 rfl ?_
      refine z_irem F dX6_told_33 (by decide) ?_
      refine z_iconst (v := 0) F dX6_told_34 rfl ?_
      refine z_iconst (v := 1) F dX6_told_35 rfl ?_
      refine z_callSi (fun _ => wCE_gp G a vg vp) F (mX6_isWithin G (p1 - p1 / (10 : Int32) * (10 : Int32)) (0 : Int32) (1 : Int32) _ h) gX6_told_X6_isWithin rfl hdX6_isWithin ⟨rfl, rfl, Nat.le_of_ble_eq_true rfl, Nat.le_of_ble_eq_true rfl, Nat.le_of_ble_eq_true rfl, Nat.le_of_ble_eq_true rfl⟩ [] [0, 1, 2, 3, 4, 5, 6, 7, 8, 9, 10] [0, 1, 2, 3, 4, 5, 6, 7, 8, 9, 10] rfl rfl (by decide) (fun _ => rfl) rfl (Nat.le_of_ble_eq_true rfl) dX6_told_36 (fun r_4 u9 h => ?_)
      refine z_if_eq 71 F dX6_told_39 (by decide) (fun c9 => ?_) (fun c9 => ?_)
      · have h := h.1 c9
        exact z_lv [1, 2] rfl (t71 vg vp p1 h)
      · have h := h.2 c9
        refine z_iload_n F dX6_told_42 rfl 2 rfl ?_
        refine z_bipush (v := 10) F dX6_told_43 rfl ?_
        refine z_irem F dX6_told_45 (by decide) ?_
        refine z_if_ne 61 F dX6_told_46 (by decide) (fun c9 => ?_) (fun c9 => ?_)
        · have h := h.1 c9
          refine z_aload_n F dX6_told_61 rfl 1 rfl ?_
          refine z_get (ci := 6) F iX6 0 rfl rfl 0 (by decide) f0 rfl rfl dX6_told_62 ?_
          refine z_get (ci := 3) F iX3 1 rfl rfl 1 (by decide) f1 rfl rfl dX6_told_65 ?_
          refine z_iload_n F dX6_told_68 rfl 0 rfl ?_
          have h9 := h.1
          have h := h.2
          refine z_iald F 3 rfl h9 dX6_told_69 ?_
          exact hret ((Gr_keeps vg) (x2_2).toNatClampNeg) (vg, vp) _ _ h dX6_told_70
        · have h := h.2 c9
          refine z_aload_n F dX6_told_49 rfl 1 rfl ?_
          refine z_get (ci := 6) F iX6 0 rfl rfl 0 (by decide) f0 rfl rfl dX6_told_50 ?_
          refine z_get (ci := 3) F iX3 1 rfl rfl 0 (by decide) f2 rfl rfl dX6_told_53 ?_
          refine z_iload_n F dX6_told_56 rfl 0 rfl ?_
          have h9 := h.1
          have h := h.2
          refine z_iald F 2 rfl h9 dX6_told_57 ?_
          refine z_goto 70 F dX6_told_58 (by decide) ?_
          exact hret ((Gr_off vg) (x2_2).toNatClampNeg) (vg, vp) _ _ h dX6_told_70
  · have h := h.2 c9
    refine z_aload_n F dX6_told_10 rfl 0 rfl ?_
    refine z_iload_n F dX6_told_11 rfl 1 rfl ?_
    refine z_callVi (fun u9 => wCE_gp G a u9.1 u9.2) F (mX6_toldOfToday G a vg vp p1 _ h) gX6_told_X6_toldOfToday rfl hdX6_toldOfToday ⟨rfl, rfl, Nat.le_of_ble_eq_true rfl, Nat.le_of_ble_eq_true rfl, Nat.le_of_ble_eq_true rfl, Nat.le_of_ble_eq_true rfl⟩ 0 rfl rfl [0, 1, 2, 3, 4, 5, 6, 7, 8, 9, 10] [] [0, 1, 2, 3, 4, 5, 6, 7, 8, 9, 10] rfl rfl (by decide) (fun _ => rfl) rfl (Nat.le_of_ble_eq_true rfl) dX6_told_12 (fun r_5 u9 h => ?_)
    obtain ⟨vg_6, vp_7⟩ := u9
    refine z_w (w' := wCE_gp G a vg_6 vp_7) rfl ?_
    exact hret r_5 (vg_6, vp_7) _ _ h dX6_told_15
