/-! wall, dress, limit, say, wipe, seen, forget, sees, forecast -/
set_option maxHeartbeats 200000 in
theorem nI_pos0 {j : Nat} (h : j < 2147483648) : (nI j).toNatClampNeg = j := nI_clamp h
def wallA (S : Sta) (D : Day) (p1 p2 p3 : Int32) : Int32 × Sta × Day :=
  if inR p1 0 3 then (if inR p2 1 9 ∧ inR p3 0 9 then (nI (zkp D p1.toNatClampNeg), (fU (zoff S) p1.toNatClampNeg p2.toNatClampNeg, S.2), (zsh D, ztn D, fU (zkp D) p1.toNatClampNeg p3.toNatClampNeg, D.2.2.2)) else (-2, S, D)) else (-1, S, D)
set_option maxHeartbeats 200000 in
theorem inR_1 {p : Int32} {n : Nat} (hn : n < 2147483648) (h : inR p 1 (nI n)) : ∃ j : Nat, 1 ≤ j ∧ j ≤ n ∧ p = nI j := by
  have h0 : ¬ p < 0 := fun q => h.1 (by
    have q1 := Int32.lt_iff_toInt_lt.mp q
    exact Int32.lt_iff_toInt_lt.mpr (Int.lt_trans q1 (by decide)))
  obtain ⟨j, hj, rfl⟩ := rng_nI hn h0 h.2
  refine ⟨j, ?_, hj, rfl⟩
  rcases Nat.eq_zero_or_pos j with q | q
  · subst q; exact absurd (show nI 0 < 1 by decide) h.1
  · exact q
set_option maxHeartbeats 200000 in
theorem wallA_W {S : Sta} {D : Day} {p1 p2 p3 : Int32} (hS : WS S) (hD : WD D) : WS (wallA S D p1 p2 p3).2.1 ∧ WD (wallA S D p1 p2 p3).2.2 ∧ zdy (wallA S D p1 p2 p3).2.2 = zdy D := by
  unfold wallA
  split
  · split
    · rename_i c1 c2
      obtain ⟨o, ho1, ho9, rfl⟩ := inR_1 (n := 9) (by decide) c2.1
      obtain ⟨k, hk9, rfl⟩ := inR_nI (n := 9) (by decide) c2.2
      rw [nI_clamp (show o < 2 ^ 31 by omega), nI_clamp (show k < 2 ^ 31 by omega)]
      refine ⟨⟨fun j => ?_, hS.2⟩, ⟨hD.1, hD.2.1, fU_le hD.2.2.1 hk9, hD.2.2.2⟩, rfl⟩
      show 1 ≤ fU (zoff S) _ o j ∧ fU (zoff S) _ o j ≤ 9
      unfold fU
      split
      · exact ⟨ho1, ho9⟩
      · exact hS.1 j
    · exact ⟨hS, hD, rfl⟩
  · exact ⟨hS, hD, rfl⟩
set_option maxHeartbeats 200000 in
theorem pX6_wall {g : Gr} {S : Sta} {D : Day} {p1 p2 p3 : Int32} {Q : Int32 → Gr → Prop} (hR : RG g S D) (h : ∀ g', RG g' (wallA S D p1 p2 p3).2.1 (wallA S D p1 p2 p3).2.2 → Q (wallA S D p1 p2 p3).1 g') : wpX6_wall g p1 p2 p3 Q := by
  unfold wallA at h
  unfold wpX6_wall
  refine ck2X6_isWall (fun c1 => ?_) (fun c1 => ?_)
  · rw [if_pos c1] at h
    refine ck1X6_isWithin (fun c2 => ?_) (fun c2 => ?_)
    · rw [if_neg (fun q => c2 q.1)] at h; exact h g hR
    · refine ck2X6_isWithin (fun c3 => ?_) (fun c3 => ?_)
      · rw [if_pos ⟨c2, c3⟩] at h
        obtain ⟨w, hw, rfl⟩ := inR_nI (n := 3) (by decide) c1
        obtain ⟨o, ho1, ho9, rfl⟩ := inR_1 (n := 9) (by decide) c2
        obtain ⟨k, hk9, rfl⟩ := inR_nI (n := 9) (by decide) c3
        rw [nI_clamp (show w < 2 ^ 31 by omega), nI_clamp (show o < 2 ^ 31 by omega), nI_clamp (show k < 2 ^ 31 by omega)] at h
        obtain ⟨r1, r2, r3, r4, r5, r6, r7, r8, r9, r10⟩ := hR
        refine ⟨vp_in_nI (by omega) (by decide), nm_r (aI_rd r9 (by omega)) ⟨vp_in_nI (by omega) (by decide), vp_in_nI (by omega) (by decide), h _ ?_⟩⟩
        exact ⟨aI_up r1, r2, r3, r4, r5, r6, r7, r8, aI_up r9, r10⟩
      · rw [if_neg (fun q => c3 q.2)] at h; exact h g hR
  · rw [if_neg c1] at h; exact h g hR
set_option maxHeartbeats 200000 in
theorem pX7_wall {m : Mo} {S : Sta} {D : Day} {sg : Nat → Nat} {cnt : Nat} {I J : Nat → Int32} {p1 p2 p3 : Int32} {Q : Int32 → Mo → Prop} (hR : RMo m S D sg cnt I J) (h : ∀ m', RMo m' (wallA S D p1 p2 p3).2.1 (wallA S D p1 p2 p3).2.2 sg cnt I J → Q (wallA S D p1 p2 p3).1 m') : wpX7_wall m p1 p2 p3 Q := by
  unfold wallA at h
  unfold wpX7_wall
  refine ck2X7_in (fun c1 => ?_) (fun c1 => ?_)
  · rw [if_pos c1] at h
    refine ck1X7_in (fun c2 => ?_) (fun c2 => ?_)
    · rw [if_neg (fun q => c2 q.1)] at h; exact h m hR
    · refine ck2X7_in (fun c3 => ?_) (fun c3 => ?_)
      · rw [if_pos ⟨c2, c3⟩] at h
        obtain ⟨w, hw, rfl⟩ := inR_nI (n := 3) (by decide) c1
        obtain ⟨o, ho1, ho9, rfl⟩ := inR_1 (n := 9) (by decide) c2
        obtain ⟨k, hk9, rfl⟩ := inR_nI (n := 9) (by decide) c3
        rw [nI_clamp (show w < 2 ^ 31 by omega), nI_clamp (show o < 2 ^ 31 by omega), nI_clamp (show k < 2 ^ 31 by omega)] at h
        obtain ⟨⟨s1, s2, s3⟩, ⟨q1, q2, q3, q4⟩, r3⟩ := hR
        refine ⟨vp_in_nI (by omega) (by decide), nm_r (aI_rd q3 (by omega)) ⟨vp_in_nI (by omega) (by decide), vp_in_nI (by omega) (by decide), h _ ?_⟩⟩
        exact ⟨⟨aI_up s1, s2, s3⟩, ⟨q1, q2, aI_up q3, q4⟩, r3⟩
      · rw [if_neg (fun q => c3 q.2)] at h; exact h m hR
  · rw [if_neg c1] at h; exact h m hR
def dressA (S : Sta) (p1 p2 p3 p4 : Int32) : Int32 × Sta :=
  if inR p1 0 5 then (if inR p2 0 99 ∧ inR p3 0 99 ∧ inR p4 0 99 then (nI (zds S (3 * p1.toNatClampNeg) + zds S (3 * p1.toNatClampNeg + 1) + zds S (3 * p1.toNatClampNeg + 2)), (zoff S, fU (fU (fU (zds S) (3 * p1.toNatClampNeg) p2.toNatClampNeg) (3 * p1.toNatClampNeg + 1) p3.toNatClampNeg) (3 * p1.toNatClampNeg + 2) p4.toNatClampNeg, S.2.2)) else (-2, S)) else (-1, S)
set_option maxHeartbeats 200000 in
theorem dressA_W {S : Sta} {p1 p2 p3 p4 : Int32} (hS : WS S) : WS (dressA S p1 p2 p3 p4).2 := by
  unfold dressA
  split
  · split
    · rename_i c1 c2
      obtain ⟨a, ha, rfl⟩ := inR_nI (n := 99) (by decide) c2.1
      obtain ⟨b, hb, rfl⟩ := inR_nI (n := 99) (by decide) c2.2.1
      obtain ⟨c, hc, rfl⟩ := inR_nI (n := 99) (by decide) c2.2.2
      rw [nI_clamp (show a < 2 ^ 31 by omega), nI_clamp (show b < 2 ^ 31 by omega), nI_clamp (show c < 2 ^ 31 by omega)]
      exact ⟨hS.1, fU_le (fU_le (fU_le hS.2.1 ha) hb) hc, hS.2.2⟩
    · exact hS
  · exact hS
set_option maxHeartbeats 200000 in
theorem pX6_dress {g : Gr} {S : Sta} {D : Day} {p1 p2 p3 p4 : Int32} {Q : Int32 → Gr → Prop} (hR : RG g S D) (h : ∀ g', RG g' (dressA S p1 p2 p3 p4).2 D → Q (dressA S p1 p2 p3 p4).1 g') : wpX6_dress g p1 p2 p3 p4 Q := by
  unfold dressA at h
  unfold wpX6_dress
  refine ck2X6_isDress (fun c1 => ?_) (fun c1 => ?_)
  · rw [if_pos c1] at h
    refine ck1X6_isWithin (fun c2 => ?_) (fun c2 => ?_)
    · rw [if_neg (fun q => c2 q.1)] at h; exact h g hR
    refine ck1X6_isWithin (fun c3 => ?_) (fun c3 => ?_)
    · rw [if_neg (fun q => c3 q.2.1)] at h; exact h g hR
    refine ck2X6_isWithin (fun c4 => ?_) (fun c4 => ?_)
    · rw [if_pos ⟨c2, c3, c4⟩] at h
      obtain ⟨k, hk, rfl⟩ := inR_nI (n := 5) (by decide) c1
      obtain ⟨a, ha, rfl⟩ := inR_nI (n := 99) (by decide) c2
      obtain ⟨b, hb, rfl⟩ := inR_nI (n := 99) (by decide) c3
      obtain ⟨c, hc, rfl⟩ := inR_nI (n := 99) (by decide) c4
      rw [nI_clamp (show k < 2 ^ 31 by omega), nI_clamp (show a < 2 ^ 31 by omega), nI_clamp (show b < 2 ^ 31 by omega), nI_clamp (show c < 2 ^ 31 by omega)] at h
      refine pX3_worth (c := 0) hR (by omega) (by decide) ?_
      refine pX3_worth (c := 1) hR (by omega) (by decide) ?_
      refine pX3_worth (c := 2) hR (by omega) (by decide) ?_
      rw [n_add, n_add]
      have e0 : nI k * 3 = nI (3 * k) := by simp (disch := omega) only [k_0, k_1, k_2, k_3, k_4, k_5, k_6, k_7, k_8, k_9, k_10, k_15, k_16, k_18, k_20, k_26, k_27, k_31, k_33, k_46, k_48, k_49, k_51, k_53, k_57, k_60, k_61, k_63, k_64, k_65, k_70, k_71, k_74, k_75, k_80, k_81, k_82, k_83, k_84, k_85, k_98, k_99, k_100, k_102, k_114, k_115, k_119, k_121, k_126, k_200, k_999, k_1000, k_3000, k_9999, k_65537, k_1000000, k_999999999, k_500, n_mul, n_add, n_sub, n_div]; first | rfl | (congr 1; omega)
      have e1 : nI (3 * k) + 1 = nI (3 * k + 1) := nI_1 _
      have e2 : nI (3 * k) + 2 = nI (3 * k + 2) := by simp (disch := omega) only [k_0, k_1, k_2, k_3, k_4, k_5, k_6, k_7, k_8, k_9, k_10, k_15, k_16, k_18, k_20, k_26, k_27, k_31, k_33, k_46, k_48, k_49, k_51, k_53, k_57, k_60, k_61, k_63, k_64, k_65, k_70, k_71, k_74, k_75, k_80, k_81, k_82, k_83, k_84, k_85, k_98, k_99, k_100, k_102, k_114, k_115, k_119, k_121, k_126, k_200, k_999, k_1000, k_3000, k_9999, k_65537, k_1000000, k_999999999, k_500, n_mul, n_add, n_sub, n_div]
      rw [e0, e1, e2]
      refine nm_e ⟨vp_in_nI (by omega) (by decide), vp_in_nI (by omega) (by decide), vp_in_nI (by omega) (by decide), h _ ?_⟩
      obtain ⟨r1, r2, r3⟩ := hR
      exact ⟨r1, aI_up (aI_up (aI_up r2)), r3⟩
    · rw [if_neg (fun q => c4 q.2.2)] at h; exact h g hR
  · rw [if_neg c1] at h; exact h g hR
set_option maxHeartbeats 200000 in
theorem pX7_dress {m : Mo} {S : Sta} {D : Day} {sg : Nat → Nat} {cnt : Nat} {I J : Nat → Int32} {p1 p2 p3 p4 : Int32} {Q : Int32 → Mo → Prop} (hR : RMo m S D sg cnt I J) (h : ∀ m', RMo m' (dressA S p1 p2 p3 p4).2 D sg cnt I J → Q (dressA S p1 p2 p3 p4).1 m') : wpX7_dress m p1 p2 p3 p4 Q := by
  unfold dressA at h
  unfold wpX7_dress
  refine ck2X7_in (fun c1 => ?_) (fun c1 => ?_)
  · rw [if_pos c1] at h
    refine ck1X7_in (fun c2 => ?_) (fun c2 => ?_)
    · rw [if_neg (fun q => c2 q.1)] at h; exact h m hR
    refine ck1X7_in (fun c3 => ?_) (fun c3 => ?_)
    · rw [if_neg (fun q => c3 q.2.1)] at h; exact h m hR
    refine ck2X7_in (fun c4 => ?_) (fun c4 => ?_)
    · rw [if_pos ⟨c2, c3, c4⟩] at h
      obtain ⟨k, hk, rfl⟩ := inR_nI (n := 5) (by decide) c1
      obtain ⟨a, ha, rfl⟩ := inR_nI (n := 99) (by decide) c2
      obtain ⟨b, hb, rfl⟩ := inR_nI (n := 99) (by decide) c3
      obtain ⟨c, hc, rfl⟩ := inR_nI (n := 99) (by decide) c4
      rw [nI_clamp (show k < 2 ^ 31 by omega), nI_clamp (show a < 2 ^ 31 by omega), nI_clamp (show b < 2 ^ 31 by omega), nI_clamp (show c < 2 ^ 31 by omega)] at h
      obtain ⟨⟨s1, s2, s3⟩, r2⟩ := hR
      have e0 : 3 * nI k = nI (3 * k) := by simp (disch := omega) only [k_0, k_1, k_2, k_3, k_4, k_5, k_6, k_7, k_8, k_9, k_10, k_15, k_16, k_18, k_20, k_26, k_27, k_31, k_33, k_46, k_48, k_49, k_51, k_53, k_57, k_60, k_61, k_63, k_64, k_65, k_70, k_71, k_74, k_75, k_80, k_81, k_82, k_83, k_84, k_85, k_98, k_99, k_100, k_102, k_114, k_115, k_119, k_121, k_126, k_200, k_999, k_1000, k_3000, k_9999, k_65537, k_1000000, k_999999999, k_500, n_mul, n_add, n_sub, n_div]
      have e1 : nI (3 * k) + 1 = nI (3 * k + 1) := nI_1 _
      have e2 : nI (3 * k) + 2 = nI (3 * k + 2) := by simp (disch := omega) only [k_0, k_1, k_2, k_3, k_4, k_5, k_6, k_7, k_8, k_9, k_10, k_15, k_16, k_18, k_20, k_26, k_27, k_31, k_33, k_46, k_48, k_49, k_51, k_53, k_57, k_60, k_61, k_63, k_64, k_65, k_70, k_71, k_74, k_75, k_80, k_81, k_82, k_83, k_84, k_85, k_98, k_99, k_100, k_102, k_114, k_115, k_119, k_121, k_126, k_200, k_999, k_1000, k_3000, k_9999, k_65537, k_1000000, k_999999999, k_500, n_mul, n_add, n_sub, n_div]
      rw [e0, e1, e2, aI_rd s2 (show 3 * k < 18 by omega), aI_rd s2 (show 3 * k + 1 < 18 by omega), aI_rd s2 (show 3 * k + 2 < 18 by omega), n_add, n_add]
      refine ⟨vp_in_nI (by omega) (by decide), vp_in_nI (by omega) (by decide), vp_in_nI (by omega) (by decide), nm_e ⟨vp_in_nI (by omega) (by decide), vp_in_nI (by omega) (by decide), vp_in_nI (by omega) (by decide), h _ ?_⟩⟩
      exact ⟨⟨s1, aI_up (aI_up (aI_up s2)), s3⟩, r2⟩
    · rw [if_neg (fun q => c4 q.2.2)] at h; exact h m hR
  · rw [if_neg c1] at h; exact h m hR
def limitA (S : Sta) (p1 : Int32) : Int32 × Sta := if inR p1 0 999 then (nI (zlim S), (zoff S, zds S, p1.toNatClampNeg, S.2.2.2)) else (-2, S)
set_option maxHeartbeats 200000 in
theorem limitA_W {S : Sta} {p1 : Int32} (hS : WS S) : WS (limitA S p1).2 := by
  unfold limitA
  split
  · rename_i c1
    obtain ⟨k, hk, rfl⟩ := inR_nI (n := 999) (by decide) c1
    rw [nI_clamp (show k < 2 ^ 31 by omega)]
    exact ⟨hS.1, hS.2.1, hk, hS.2.2.2⟩
  · exact hS
set_option maxHeartbeats 200000 in
theorem pX6_limit {g : Gr} {S : Sta} {D : Day} {p1 : Int32} {Q : Int32 → Gr → Prop} (hR : RG g S D) (h : ∀ g', RG g' (limitA S p1).2 D → Q (limitA S p1).1 g') : wpX6_limit g p1 Q := by
  unfold limitA at h
  unfold wpX6_limit
  refine ck2X6_isAmount (fun c1 => ?_) (fun c1 => ?_)
  · rw [if_pos c1] at h
    obtain ⟨k, hk, rfl⟩ := inR_nI (n := 999) (by decide) c1
    rw [nI_clamp (show k < 2 ^ 31 by omega)] at h
    obtain ⟨r1, r2, r3, r4⟩ := hR
    exact nm_r r3 (h _ ⟨r1, r2, rfl, r4⟩)
  · rw [if_neg c1] at h; exact h g hR
set_option maxHeartbeats 200000 in
theorem pX7_limit {m : Mo} {S : Sta} {D : Day} {sg : Nat → Nat} {cnt : Nat} {I J : Nat → Int32} {p1 : Int32} {Q : Int32 → Mo → Prop} (hR : RMo m S D sg cnt I J) (h : ∀ m', RMo m' (limitA S p1).2 D sg cnt I J → Q (limitA S p1).1 m') : wpX7_limit m p1 Q := by
  unfold limitA at h
  unfold wpX7_limit
  refine ck2X7_in (fun c1 => ?_) (fun c1 => ?_)
  · rw [if_pos c1] at h
    obtain ⟨k, hk, rfl⟩ := inR_nI (n := 999) (by decide) c1
    rw [nI_clamp (show k < 2 ^ 31 by omega)] at h
    obtain ⟨⟨s1, s2, s3⟩, r2⟩ := hR
    exact nm_r s3 (h _ ⟨⟨s1, s2, rfl⟩, r2⟩)
  · rw [if_neg c1] at h; exact h m hR
def sayA (sg : Nat → Nat) (cnt : Nat) (p1 : Int32) : Int32 × (Nat → Nat) × Nat := if inR p1 33 126 then (if cnt < 60 then (nI (cnt + 1), fU sg cnt p1.toNatClampNeg, cnt + 1) else (-4, sg, cnt)) else (-2, sg, cnt)
set_option maxHeartbeats 200000 in
theorem inR_33 {p : Int32} (h : inR p 33 126) : ∃ j : Nat, 33 ≤ j ∧ j ≤ 126 ∧ p = nI j := by
  have h0 : ¬ p < 0 := fun q => h.1 (by
    have q1 := Int32.lt_iff_toInt_lt.mp q
    exact Int32.lt_iff_toInt_lt.mpr (Int.lt_trans q1 (by decide)))
  obtain ⟨j, hj, rfl⟩ := rng_nI (n := 126) (by decide) h0 h.2
  refine ⟨j, ?_, hj, rfl⟩
  rcases Nat.lt_or_ge j 33 with q | q
  · exact absurd ((nI_ltI (by omega) (by decide)).mpr q) h.1
  · exact q
set_option maxHeartbeats 200000 in
theorem sayA_W {sg : Nat → Nat} {cnt : Nat} {p1 : Int32} (hs : ∀ j, 0 ≤ sg j ∧ sg j ≤ 126) (hc : cnt ≤ 60) : (∀ j, 0 ≤ (sayA sg cnt p1).2.1 j ∧ (sayA sg cnt p1).2.1 j ≤ 126) ∧ (sayA sg cnt p1).2.2 ≤ 60 := by
  unfold sayA
  split
  · rename_i c1
    obtain ⟨k, h1, h2, rfl⟩ := inR_33 c1
    split
    · rename_i c2
      rw [nI_clamp (show k < 2 ^ 31 by omega)]
      refine ⟨fun j => ?_, by show cnt + 1 ≤ 60; omega⟩
      show 0 ≤ fU sg cnt k j ∧ fU sg cnt k j ≤ 126
      unfold fU
      split
      · exact ⟨Nat.zero_le _, h2⟩
      · exact hs j
    · exact ⟨hs, hc⟩
  · exact ⟨hs, hc⟩
set_option maxHeartbeats 200000 in
theorem pX6_say {p : Pd} {sg : Nat → Nat} {cnt : Nat} {p1 : Int32} {Q : Int32 → Pd → Prop} (hR : RPd p sg cnt) (hc : cnt ≤ 60) (h : ∀ p', RPd p' (sayA sg cnt p1).2.1 (sayA sg cnt p1).2.2 → Q (sayA sg cnt p1).1 p') : wpX6_say p p1 Q := by
  unfold sayA at h
  unfold wpX6_say
  refine ck2X6_isWithin (fun c1 => ?_) (fun c1 => ?_)
  · rw [if_pos c1] at h
    obtain ⟨k, h1, h2, rfl⟩ := inR_33 c1
    rw [nI_clamp (show k < 2 ^ 31 by omega)] at h
    rw [hR.2]
    refine pk_lt cnt 60 (fun q => ?_) (fun q => ?_)
    · rw [if_pos q] at h
      rw [nI_1]
      exact ⟨vp_in_nI q (by decide), h _ ⟨aI_up hR.1, rfl⟩⟩
    · rw [if_neg (by omega)] at h
      exact h p hR
  · rw [if_neg c1] at h; exact h p hR
set_option maxHeartbeats 200000 in
theorem pX7_say {m : Mo} {S : Sta} {D : Day} {sg : Nat → Nat} {cnt : Nat} {I J : Nat → Int32} {p1 : Int32} {Q : Int32 → Mo → Prop} (hR : RMo m S D sg cnt I J) (hc : cnt ≤ 60) (h : ∀ m', RMo m' S D (sayA sg cnt p1).2.1 (sayA sg cnt p1).2.2 I J → Q (sayA sg cnt p1).1 m') : wpX7_say m p1 Q := by
  unfold sayA at h
  unfold wpX7_say
  refine ck2X7_in (fun c1 => ?_) (fun c1 => ?_)
  · rw [if_pos c1] at h
    obtain ⟨k, h1, h2, rfl⟩ := inR_33 c1
    rw [nI_clamp (show k < 2 ^ 31 by omega)] at h
    have hR0 := hR
    obtain ⟨r1, r2, r3, r4, r5, r6, r7⟩ := hR
    rw [r5]
    refine pk_ne cnt 60 (fun q => ?_) (fun q => ?_)
    · rw [if_pos (by omega)] at h
      rw [nI_1]
      exact ⟨vp_in_nI (by omega) (by decide), h _ ⟨r1, r2, r3, r4, rfl, aI_up r6, r7⟩⟩
    · rw [if_neg (by omega)] at h
      exact h m hR0
  · rw [if_neg c1] at h; exact h m hR
set_option maxHeartbeats 200000 in
theorem pX6_wipe {p : Pd} {sg : Nat → Nat} {cnt : Nat} {Q : Int32 → Pd → Prop} (hR : RPd p sg cnt) (h : ∀ p', RPd p' sg 0 → Q (nI cnt) p') : wpX6_wipe p Q := nm_r hR.2 (h _ ⟨hR.1, rfl⟩)
set_option maxHeartbeats 200000 in
theorem pX7_wipe {m : Mo} {S : Sta} {D : Day} {sg : Nat → Nat} {cnt : Nat} {I J : Nat → Int32} {Q : Int32 → Mo → Prop} (hR : RMo m S D sg cnt I J) (h : ∀ m', RMo m' S D sg 0 I J → Q (nI cnt) m') : wpX7_wipe m Q := by
  obtain ⟨r1, r2, r3, r4, r5, r6, r7⟩ := hR
  exact nm_r r5 (h _ ⟨r1, r2, r3, r4, rfl, r6, r7⟩)
def seenA (S : Sta) (p1 p2 : Int32) : Int32 × Sta := if inR p1 0 60 ∧ inR p2 0 999 then (if zns S < 8 then (nI (zns S + 1), (zoff S, zds S, zlim S, zns S + 1, fU (zsd S) (zns S) p1.toNatClampNeg, fU (zsa S) (zns S) p2.toNatClampNeg)) else (-4, S)) else (-2, S)
set_option maxHeartbeats 200000 in
theorem seenA_W {S : Sta} {p1 p2 : Int32} (hS : WS S) : WS (seenA S p1 p2).2 := by
  unfold seenA
  split
  · rename_i c1
    obtain ⟨k, hk, rfl⟩ := inR_nI (n := 60) (by decide) c1.1
    obtain ⟨v, hv, rfl⟩ := inR_nI (n := 999) (by decide) c1.2
    rw [nI_clamp (show k < 2 ^ 31 by omega), nI_clamp (show v < 2 ^ 31 by omega)]
    split
    · exact ⟨hS.1, hS.2.1, hS.2.2.1, by show zns S + 1 ≤ 8; omega, fU_le hS.2.2.2.2.1 hk, fU_le hS.2.2.2.2.2 hv⟩
    · exact hS
  · exact hS
set_option maxHeartbeats 200000 in
theorem pX6_seen {g : Gr} {S : Sta} {D : Day} {p1 p2 : Int32} {Q : Int32 → Gr → Prop} (hR : RG g S D) (hS : WS S) (h : ∀ g', RG g' (seenA S p1 p2).2 D → Q (seenA S p1 p2).1 g') : wpX6_seen g p1 p2 Q := by
  have hn := hS.2.2.2.1
  unfold seenA at h
  unfold wpX6_seen
  refine ck1X6_isAhead (fun c1 => ?_) (fun c1 => ?_)
  · rw [if_neg (fun q => c1 q.1)] at h; exact h g hR
  refine ck2X6_isAmount (fun c2 => ?_) (fun c2 => ?_)
  · rw [if_pos ⟨c1, c2⟩] at h
    obtain ⟨k, hk, rfl⟩ := inR_nI (n := 60) (by decide) c1
    obtain ⟨v, hv, rfl⟩ := inR_nI (n := 999) (by decide) c2
    rw [nI_clamp (show k < 2 ^ 31 by omega), nI_clamp (show v < 2 ^ 31 by omega)] at h
    have hR0 := hR
    obtain ⟨r1, r2, r3, r4, r5, r6, r7⟩ := hR
    rw [r4]
    refine pk_lt (zns S) 8 (fun q => ?_) (fun q => ?_)
    · rw [if_pos q] at h
      rw [nI_1]
      exact ⟨vp_in_nI q (by decide), vp_in_nI q (by decide), h _ ⟨r1, r2, r3, rfl, aI_up r5, aI_up r6, r7⟩⟩
    · rw [if_neg (by omega)] at h
      exact h g hR0
  · rw [if_neg (fun q => c2 q.2)] at h; exact h g hR
set_option maxHeartbeats 200000 in
theorem pX7_seen {m : Mo} {S : Sta} {D : Day} {sg : Nat → Nat} {cnt : Nat} {I J : Nat → Int32} {p1 p2 : Int32} {Q : Int32 → Mo → Prop} (hR : RMo m S D sg cnt I J) (hS : WS S) (h : ∀ m', RMo m' (seenA S p1 p2).2 D sg cnt I J → Q (seenA S p1 p2).1 m') : wpX7_seen m p1 p2 Q := by
  have hn := hS.2.2.2.1
  unfold seenA at h
  unfold wpX7_seen
  refine ck1X7_isDay (fun c1 => ?_) (fun c1 => ?_)
  · rw [if_neg (fun q => c1 q.1)] at h; exact h m hR
  refine ck2X7_in (fun c2 => ?_) (fun c2 => ?_)
  · rw [if_pos ⟨c1, c2⟩] at h
    obtain ⟨k, hk, rfl⟩ := inR_nI (n := 60) (by decide) c1
    obtain ⟨v, hv, rfl⟩ := inR_nI (n := 999) (by decide) c2
    rw [nI_clamp (show k < 2 ^ 31 by omega), nI_clamp (show v < 2 ^ 31 by omega)] at h
    have hR0 := hR
    obtain ⟨r1, r2, r3, r4, r5⟩ := hR
    have e0 : 2 * nI (zns S) = nI (2 * zns S) := by simp (disch := omega) only [k_0, k_1, k_2, k_3, k_4, k_5, k_6, k_7, k_8, k_9, k_10, k_15, k_16, k_18, k_20, k_26, k_27, k_31, k_33, k_46, k_48, k_49, k_51, k_53, k_57, k_60, k_61, k_63, k_64, k_65, k_70, k_71, k_74, k_75, k_80, k_81, k_82, k_83, k_84, k_85, k_98, k_99, k_100, k_102, k_114, k_115, k_119, k_121, k_126, k_200, k_999, k_1000, k_3000, k_9999, k_65537, k_1000000, k_999999999, k_500, n_mul, n_add, n_sub, n_div]
    rw [r3, e0, nI_1, nI_1]
    refine pk_ne (zns S) 8 (fun q => ?_) (fun q => ?_)
    · rw [if_pos (by omega)] at h
      refine ⟨vp_in_nI (by omega) (by decide), vp_in_nI (by omega) (by decide), h _ ⟨r1, r2, rfl, fun i hi => ?_, r5⟩⟩
      show upd (upd (Mo_sight m) (nI (2 * zns S)).toNatClampNeg (nI k)) (nI (2 * zns S + 1)).toNatClampNeg (nI v) (2 * i) = nI (fU (zsd S) (zns S) k i) ∧ upd (upd (Mo_sight m) (nI (2 * zns S)).toNatClampNeg (nI k)) (nI (2 * zns S + 1)).toNatClampNeg (nI v) (2 * i + 1) = nI (fU (zsa S) (zns S) v i)
      rw [nI_clamp (show 2 * zns S < 2 ^ 31 by omega), nI_clamp (show 2 * zns S + 1 < 2 ^ 31 by omega)]
      unfold upd fU
      by_cases q2 : i = zns S
      · subst q2
        refine ⟨?_, ?_⟩
        · rw [if_neg (by omega), if_pos rfl, if_pos rfl]
        · rw [if_pos rfl, if_pos rfl]
      · refine ⟨?_, ?_⟩
        · rw [if_neg (by omega), if_neg (by omega), if_neg q2]; exact (r4 i hi).1
        · rw [if_neg (by omega), if_neg (by omega), if_neg q2]; exact (r4 i hi).2
    · rw [if_neg (by omega)] at h
      exact h m hR0
  · rw [if_neg (fun q => c2 q.2)] at h; exact h m hR
set_option maxHeartbeats 200000 in
theorem pX6_forget {g : Gr} {S : Sta} {D : Day} {Q : Int32 → Gr → Prop} (hR : RG g S D) (h : ∀ g', RG g' (zoff S, zds S, zlim S, 0, S.2.2.2.2) D → Q (nI (zns S)) g') : wpX6_forget g Q := by
  obtain ⟨r1, r2, r3, r4, r5⟩ := hR
  exact nm_r r4 (h _ ⟨r1, r2, r3, rfl, r5⟩)
set_option maxHeartbeats 200000 in
theorem pX7_forget {m : Mo} {S : Sta} {D : Day} {sg : Nat → Nat} {cnt : Nat} {I J : Nat → Int32} {Q : Int32 → Mo → Prop} (hR : RMo m S D sg cnt I J) (h : ∀ m', RMo m' (zoff S, zds S, zlim S, 0, S.2.2.2.2) D sg cnt I J → Q (nI (zns S)) m') : wpX7_forget m Q := by
  obtain ⟨r1, r2, r3, r4, r5⟩ := hR
  exact nm_r r3 (h _ ⟨r1, r2, rfl, r4, r5⟩)
def seesA (S : Sta) (D : Day) (p1 : Int32) : Int32 := if inR p1 0 2 then nI (seeA (zoff S) D p1.toNatClampNeg 0) else -2
set_option maxHeartbeats 200000 in
theorem pX6_sees {g : Gr} {S : Sta} {D : Day} {p1 : Int32} {Q : Int32 → Gr → Prop} (hR : RG g S D) (hS : WS S) (hD : WD D) (h : Q (seesA S D p1) g) : wpX6_sees g p1 Q := by
  unfold seesA at h
  unfold wpX6_sees
  refine ck1X6_isColour (fun c1 => ?_) (fun c1 => ?_)
  · rw [if_neg c1] at h; exact h
  · rw [if_pos c1] at h
    obtain ⟨k, hk, rfl⟩ := inR_nI (n := 2) (by decide) c1
    rw [nI_clamp (show k < 2 ^ 31 by omega)] at h
    exact pX3_seenToday (mo := 0) hR hS hD (by omega) (by decide) h
set_option maxHeartbeats 200000 in
theorem pX7_sees {m : Mo} {S : Sta} {D : Day} {sg : Nat → Nat} {cnt : Nat} {I J : Nat → Int32} {p1 : Int32} {Q : Int32 → Mo → Prop} (hR : RMo m S D sg cnt I J) (hS : WS S) (hD : WD D) (h : ∀ m', FX m m' → Q (seesA S D p1) m') : wpX7_sees m p1 Q := by
  unfold seesA at h
  unfold wpX7_sees
  refine ck2X7_in (fun c1 => ?_) (fun c1 => ?_)
  · rw [if_pos c1] at h
    obtain ⟨k, hk, rfl⟩ := inR_nI (n := 2) (by decide) c1
    rw [nI_clamp (show k < 2 ^ 31 by omega)] at h
    refine pX7_asNow hR.2.1 (fun m1 hF hN => ?_)
    exact pX7_see (hF.S hR.1) hN hS hD (by omega) (h m1 hF.X)
  · rw [if_neg c1] at h; exact h m FX.rf
def forecastA (S : Sta) (D : Day) (p1 p2 : Int32) : Int32 := if inR p1 0 2 ∧ inR p2 0 60 then nI (fcA (zoff S) D p1.toNatClampNeg p2.toNatClampNeg 0) else -2
set_option maxHeartbeats 200000 in
theorem pX6_forecast {g : Gr} {co : Co} {S : Sta} {D : Day} {p1 p2 : Int32} {Q : Int32 → Gr → Co → Prop} (hR : RG g S D) (hS : WS S) (hD : WD D) (h : ∀ co', Q (forecastA S D p1 p2) g co') : wpX6_forecast g co p1 p2 Q := by
  unfold forecastA at h
  unfold wpX6_forecast
  refine ck1X6_isColour (fun c1 => ?_) (fun c1 => ?_)
  · rw [if_neg (fun q => c1 q.1)] at h; exact h co
  refine ck2X6_isAhead (fun c2 => ?_) (fun c2 => ?_)
  · rw [if_pos ⟨c1, c2⟩] at h
    obtain ⟨k, hk, rfl⟩ := inR_nI (n := 2) (by decide) c1
    obtain ⟨d, hd, rfl⟩ := inR_nI (n := 60) (by decide) c2
    rw [nI_clamp (show k < 2 ^ 31 by omega), nI_clamp (show d < 2 ^ 31 by omega)] at h
    exact pX6_seenWith (mo := 0) hR hS hD (by omega) hd (by decide) h
  · rw [if_neg (fun q => c2 q.2)] at h; exact h co
set_option maxHeartbeats 200000 in
theorem pX7_forecast {m : Mo} {S : Sta} {D : Day} {sg : Nat → Nat} {cnt : Nat} {I J : Nat → Int32} {p1 p2 : Int32} {Q : Int32 → Mo → Prop} (hR : RMo m S D sg cnt I J) (hS : WS S) (hD : WD D) (hy : zdy D ≤ 99) (h : ∀ m', FX m m' → Q (forecastA S D p1 p2) m') : wpX7_forecast m p1 p2 Q := by
  unfold forecastA at h
  unfold wpX7_forecast
  refine ck1X7_in (fun c1 => ?_) (fun c1 => ?_)
  · rw [if_neg (fun q => c1 q.1)] at h; exact h m FX.rf
  refine ck2X7_isDay (fun c2 => ?_) (fun c2 => ?_)
  · rw [if_pos ⟨c1, c2⟩] at h
    obtain ⟨k, hk, rfl⟩ := inR_nI (n := 2) (by decide) c1
    obtain ⟨d, hd, rfl⟩ := inR_nI (n := 60) (by decide) c2
    rw [nI_clamp (show k < 2 ^ 31 by omega), nI_clamp (show d < 2 ^ 31 by omega)] at h
    refine pX7_asNow hR.2.1 (fun m1 hF hN => ?_)
    refine pX7_waits (hF.S hR.1) hN hS hD (by omega) (by omega) (fun m2 hF2 hN2 => ?_)
    refine pX7_see ((hF.trans hF2).S hR.1) hN2 hS (waitA_WD hD d (by omega)) (by omega) ?_
    rw [see_wait (mo := 0) hS.1 d rfl rfl]
    exact h m2 (hF.trans hF2).X
  · rw [if_neg (fun q => c2 q.2)] at h; exact h m FX.rf
