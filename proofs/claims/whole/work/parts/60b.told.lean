set_option maxHeartbeats 200000 in
theorem bit01 {a : Nat} (h : a ≤ 1) : (a = 0 → (0 : Int32) = nI a) ∧ (¬ a = 0 → (1 : Int32) = nI a) := by
  rcases (show a = 0 ∨ a = 1 by omega) with rfl | rfl
  · exact ⟨fun _ => rfl, fun w => absurd rfl w⟩
  · exact ⟨fun w => absurd w (by decide), fun _ => rfl⟩
set_option maxHeartbeats 200000 in
theorem pX6_toldOfToday {g : Gr} {v : Pd} {S : Sta} {D : Day} {sg : Nat → Nat} {cnt x : Nat} {Q : Int32 → Gr → Pd → Prop} (hR : RG g S D) (hP : RPd v sg cnt) (hD : WD D) (hx : x ≤ 6) (h : Q (nI (todA S D cnt x)) g v) : wpX6_toldOfToday g v (nI x) Q := by
  obtain ⟨r1, r2, r3, r4, r5, r6, r7, r8, r9, r10, r11, r12, r13⟩ := hR
  have f1 := hD.2.2.2.1
  have f2 := hD.2.2.2.2.1
  unfold todA at h
  unfold wpX6_toldOfToday
  rw [hP.2, r13, r3, r4, r10, r11, r12]
  refine pk_eq x 0 (fun q => ?_) (fun q0 => ?_)
  · rw [if_pos q] at h; exact h
  rw [if_neg q0] at h
  refine pk_eq x 1 (fun q => ?_) (fun q1 => ?_)
  · rw [if_pos q] at h; exact h
  rw [if_neg q1] at h
  refine pk_eq x 2 (fun q => ?_) (fun q2 => ?_)
  · rw [if_pos q] at h; exact h
  rw [if_neg q2] at h
  refine pk_eq x 3 (fun q => ?_) (fun q3 => ?_)
  · rw [if_pos q] at h; exact h
  rw [if_neg q3] at h
  refine pk_eq x 4 (fun q => ?_) (fun q4 => ?_)
  · rw [if_pos q] at h
    refine pk_eq (zfg D) 0 (fun w => ?_) (fun w => ?_)
    · rw [(bit01 f1).1 w]; exact h
    · rw [(bit01 f1).2 w]; exact h
  rw [if_neg q4] at h
  refine pk_eq x 5 (fun q => ?_) (fun q5 => ?_)
  · rw [if_pos q] at h
    refine pk_eq (zsn D) 0 (fun w => ?_) (fun w => ?_)
    · rw [(bit01 f2).1 w]; exact h
    · rw [(bit01 f2).2 w]; exact h
  rw [if_neg q5] at h
  exact h
set_option maxHeartbeats 200000 in
theorem pX6_told {g : Gr} {v : Pd} {S : Sta} {D : Day} {sg : Nat → Nat} {cnt : Nat} {p1 : Int32} {Q : Int32 → Gr → Pd → Prop} (hR : RG g S D) (hP : RPd v sg cnt) (hD : WD D) (h : Q (toldA S D cnt p1) g v) : wpX6_told g v p1 Q := by
  unfold toldA at h
  unfold wpX6_told
  by_cases neg : p1 < 0
  · rw [if_pos neg] at h
    have b73 : wpX6_told_B71 Q g v p1 := by
      unfold wpX6_told_B71
      refine nm_e (ck1X6_isDress (fun _ => h) (fun c => absurd c (neg_pred (d := 100) neg (Or.inr rfl) 5)))
    refine ck1X6_isWithin (fun _ => ?_) (fun c => absurd neg c.1)
    exact nm_e (ck1X6_isWall (fun _ => b73) (fun c => absurd c (neg_pred (d := 10) neg (Or.inl rfl) 3)))
  · rw [if_neg neg] at h
    obtain ⟨x, hx, rfl⟩ := nI_of neg
    rw [nI_clamp (show x < 2 ^ 31 by omega)] at h
    have m10 := rem_nI (x := x) (d := 10) hx (by decide) (by decide)
    have m100 := rem_nI (x := x) (d := 100) hx (by decide) (by decide)
    have d10 : nI x / 10 = nI (x / 10) := n_div hx (by decide) (by decide)
    have d100 : nI x / 100 = nI (x / 100) := n_div hx (by decide) (by decide)
    have ip10 := in_pred (a := x / 10) (k := 3) (by omega) (by decide)
    have ip100 := in_pred (a := x / 100) (k := 5) (by omega) (by decide)
    have l10 : x % 10 < 10 := Nat.mod_lt _ (by decide)
    have l100 : x % 100 < 100 := Nat.mod_lt _ (by decide)
    refine ck1X6_isWithin (fun c => ?_) (fun c => ?_)
    · have c7 : ¬ x ≤ 6 := fun w => c ((inR_iff (a := 0) (b := 6) hx (by decide) (by decide)).mpr ⟨Nat.zero_le _, w⟩)
      rw [if_neg c7] at h
      rw [show nI x - nI x / 10 * 10 = nI (x % 10) from m10, d10]
      have im : inR (nI (x % 10)) 0 1 ↔ x % 10 ≤ 1 := by
        have := inR_iff (x := x % 10) (a := 0) (b := 1) (by omega) (by decide) (by decide)
        exact ⟨fun w => (this.mp w).2, fun w => this.mpr ⟨Nat.zero_le _, w⟩⟩
      have ic : inR (nI (x % 100)) 0 2 ↔ x % 100 ≤ 2 := by
        have := inR_iff (x := x % 100) (a := 0) (b := 2) (by omega) (by decide) (by decide)
        exact ⟨fun w => (this.mp w).2, fun w => this.mpr ⟨Nat.zero_le _, w⟩⟩
      have b73 : ¬ (10 ≤ x ∧ x < 50 ∧ x % 10 ≤ 1) → wpX6_told_B71 Q g v (nI x) := by
        intro nw
        unfold wpX6_told_B71
        rw [show nI x - nI x / 100 * 100 = nI (x % 100) from m100, d100]
        refine nm_e (ck1X6_isDress (fun u => ?_) (fun u => ?_))
        · have u2 : ¬ (1 ≤ x / 100 ∧ x / 100 ≤ 5 + 1) := fun w => u (ip100.mpr w)
          by_cases w1 : x < 10
          · rw [if_pos w1] at h; exact h
          rw [if_neg w1] at h
          by_cases w2 : x < 100
          · rw [if_pos w2, if_neg (by omega)] at h; exact h
          rw [if_neg w2, if_neg (by omega)] at h; exact h
        · have u2 := ip100.mp u
          rw [if_neg (by omega), if_neg (by omega)] at h
          refine ck1X6_isColour (fun t => ?_) (fun t => ?_)
          · rw [if_neg (fun w => t (ic.mpr w.2))] at h; exact h
          · have t2 := ic.mp t
            rw [if_pos ⟨by omega, t2⟩] at h
            have e : nI (x / 100) - 1 = nI (x / 100 - 1) := by simp (disch := omega) only [k_0, k_1, k_2, k_3, k_4, k_5, k_6, k_7, k_8, k_9, k_10, k_15, k_16, k_18, k_20, k_26, k_27, k_31, k_33, k_46, k_48, k_49, k_51, k_53, k_57, k_60, k_61, k_63, k_64, k_65, k_70, k_71, k_74, k_75, k_80, k_81, k_82, k_83, k_84, k_85, k_98, k_99, k_100, k_102, k_114, k_115, k_119, k_121, k_126, k_200, k_999, k_1000, k_3000, k_9999, k_65537, k_1000000, k_999999999, k_500, n_mul, n_add, n_sub, n_div]
            rw [e]
            exact pX3_worth hR (by omega) (by omega) h
      refine nm_e (ck1X6_isWall (fun u => b73 (fun w => u (ip10.mpr (by omega)))) (fun u => ?_))
      have u2 := ip10.mp u
      refine ck1X6_isWithin (fun t => b73 (fun w => t (im.mpr w.2.2))) (fun t => ?_)
      have t2 := im.mp t
      rw [if_neg (by omega), if_pos (by omega), if_pos ⟨by omega, t2⟩] at h
      have e : nI (x / 10) - 1 = nI (x / 10 - 1) := by simp (disch := omega) only [k_0, k_1, k_2, k_3, k_4, k_5, k_6, k_7, k_8, k_9, k_10, k_15, k_16, k_18, k_20, k_26, k_27, k_31, k_33, k_46, k_48, k_49, k_51, k_53, k_57, k_60, k_61, k_63, k_64, k_65, k_70, k_71, k_74, k_75, k_80, k_81, k_82, k_83, k_84, k_85, k_98, k_99, k_100, k_102, k_114, k_115, k_119, k_121, k_126, k_200, k_999, k_1000, k_3000, k_9999, k_65537, k_1000000, k_999999999, k_500, n_mul, n_add, n_sub, n_div]
      rw [e]
      refine pk_ne (x % 10) 0 (fun w => ⟨vp_in_nI (by omega) (by decide), ?_⟩) (fun w => ⟨vp_in_nI (by omega) (by decide), ?_⟩)
      · rw [if_neg w] at h
        rw [aI_rd hR.2.2.2.2.2.2.2.2.1 (by omega)]; exact h
      · rw [if_pos w] at h
        rw [aI_rd hR.1 (by omega)]; exact h
    · have c2 := (inR_iff (a := 0) (b := 6) hx (by decide) (by decide)).mp c
      rw [if_pos c2.2] at h
      exact pX6_toldOfToday hR hP hD c2.2 h
set_option maxHeartbeats 200000 in
theorem pX7_told {m : Mo} {S : Sta} {D : Day} {sg : Nat → Nat} {cnt : Nat} {I J : Nat → Int32} {p1 : Int32} {Q : Int32 → Mo → Prop} (hR : RMo m S D sg cnt I J) (h : Q (toldA S D cnt p1) m) : wpX7_told m p1 Q := by
  obtain ⟨⟨s1, s2, s3⟩, ⟨q1, q2, q3, q4, q5, q6, q7⟩, t1, t2, t3, t4⟩ := hR
  unfold toldA at h
  unfold wpX7_told
  by_cases neg : p1 < 0
  · rw [if_pos neg] at h
    have ne : ∀ k : Nat, k < 2147483648 → ¬ p1 = nI k := fun k hk w => nI_pos (n := k) hk (by rw [← w]; exact neg)
    have lt : ∀ k : Nat, k < 2147483648 → p1 < nI k := fun k hk => by
      have a1 := Int32.lt_iff_toInt_lt.mp neg
      have z0 : (0 : Int32).toInt = 0 := by decide
      refine Int32.lt_iff_toInt_lt.mpr ?_
      rw [nI_toInt hk]
      omega
    refine br_t (lt 100 (by decide)) (br_t (lt 10 (by decide)) ?_)
    exact br_f (ne 0 (by decide)) (br_f (ne 1 (by decide)) (br_f (ne 2 (by decide)) (br_f (ne 3 (by decide)) (br_f (ne 4 (by decide)) (br_f (ne 5 (by decide)) (bn_t (ne 6 (by decide)) h))))))
  · rw [if_neg neg] at h
    obtain ⟨x, hx, rfl⟩ := nI_of neg
    rw [nI_clamp (show x < 2 ^ 31 by omega)] at h
    have m10 := rem_nI (x := x) (d := 10) hx (by decide) (by decide)
    have m100 := rem_nI (x := x) (d := 100) hx (by decide) (by decide)
    have d10 : nI x / 10 = nI (x / 10) := n_div hx (by decide) (by decide)
    have d100 : nI x / 100 = nI (x / 100) := n_div hx (by decide) (by decide)
    have ip10 := in_pred (a := x / 10) (k := 3) (by omega) (by decide)
    have ip100 := in_pred (a := x / 100) (k := 5) (by omega) (by decide)
    have l10 : x % 10 < 10 := Nat.mod_lt _ (by decide)
    have l100 : x % 100 < 100 := Nat.mod_lt _ (by decide)
    rw [show nI x - nI x / 10 * 10 = nI (x % 10) from m10, d10, show nI x - nI x / 100 * 100 = nI (x % 100) from m100, d100]
    refine pk_lt x 100 (fun c1 => ?_) (fun c1 => ?_)
    · refine pk_lt x 10 (fun c2 => ?_) (fun c2 => ?_)
      · rw [t3, q7, s3, t1, q4, q5, q6]
        unfold todA at h
        by_cases c3 : x ≤ 6
        · rw [if_pos c3] at h
          refine pk_eq x 0 (fun q => ?_) (fun q0 => ?_)
          · rw [if_pos q] at h; exact h
          rw [if_neg q0] at h
          refine pk_eq x 1 (fun q => ?_) (fun q1 => ?_)
          · rw [if_pos q] at h; exact h
          rw [if_neg q1] at h
          refine pk_eq x 2 (fun q => ?_) (fun q2 => ?_)
          · rw [if_pos q] at h; exact h
          rw [if_neg q2] at h
          refine pk_eq x 3 (fun q => ?_) (fun q3 => ?_)
          · rw [if_pos q] at h; exact h
          rw [if_neg q3] at h
          refine pk_eq x 4 (fun q => ?_) (fun q4 => ?_)
          · rw [if_pos q] at h; exact h
          rw [if_neg q4] at h
          refine pk_eq x 5 (fun q => ?_) (fun q5 => ?_)
          · rw [if_pos q] at h; exact h
          rw [if_neg q5] at h
          exact pk_ne x 6 (fun q => absurd (show x = 6 by omega) q) (fun q => h)
        · rw [if_neg c3, if_pos c2] at h
          exact pk_eq x 0 (fun q => absurd q (by omega)) (fun _ => pk_eq x 1 (fun q => absurd q (by omega)) (fun _ => pk_eq x 2 (fun q => absurd q (by omega)) (fun _ => pk_eq x 3 (fun q => absurd q (by omega)) (fun _ => pk_eq x 4 (fun q => absurd q (by omega)) (fun _ => pk_eq x 5 (fun q => absurd q (by omega)) (fun _ => pk_ne x 6 (fun _ => h) (fun q => absurd q (by omega))))))))
      · rw [if_neg (by omega), if_neg (by omega), if_pos c1] at h
        refine nm_e (ck1X7_in (fun u => ?_) (fun u => ?_))
        · rw [if_neg (fun w => u (ip10.mpr (by omega)))] at h; exact h
        · have u2 := ip10.mp u
          have e : nI (x / 10) - 1 = nI (x / 10 - 1) := by simp (disch := omega) only [k_0, k_1, k_2, k_3, k_4, k_5, k_6, k_7, k_8, k_9, k_10, k_15, k_16, k_18, k_20, k_26, k_27, k_31, k_33, k_46, k_48, k_49, k_51, k_53, k_57, k_60, k_61, k_63, k_64, k_65, k_70, k_71, k_74, k_75, k_80, k_81, k_82, k_83, k_84, k_85, k_98, k_99, k_100, k_102, k_114, k_115, k_119, k_121, k_126, k_200, k_999, k_1000, k_3000, k_9999, k_65537, k_1000000, k_999999999, k_500, n_mul, n_add, n_sub, n_div]
          rw [e]
          refine pk_le (x % 10) 1 (fun w => ?_) (fun w => ?_)
          · rw [if_pos ⟨by omega, w⟩] at h
            refine pk_ne (x % 10) 0 (fun w2 => ⟨vp_in_nI (by omega) (by decide), ?_⟩) (fun w2 => ⟨vp_in_nI (by omega) (by decide), ?_⟩)
            · rw [if_neg w2] at h
              rw [aI_rd q3 (by omega)]; exact h
            · rw [if_pos w2] at h
              rw [aI_rd s1 (by omega)]; exact h
          · rw [if_neg (by omega)] at h; exact h
    · rw [if_neg (by omega), if_neg (by omega), if_neg (by omega)] at h
      refine nm_e (ck1X7_in (fun u => ?_) (fun u => ?_))
      · rw [if_neg (fun w => u (ip100.mpr (by omega)))] at h; exact h
      · have u2 := ip100.mp u
        have e : nI (x / 100) - 1 = nI (x / 100 - 1) := by simp (disch := omega) only [k_0, k_1, k_2, k_3, k_4, k_5, k_6, k_7, k_8, k_9, k_10, k_15, k_16, k_18, k_20, k_26, k_27, k_31, k_33, k_46, k_48, k_49, k_51, k_53, k_57, k_60, k_61, k_63, k_64, k_65, k_70, k_71, k_74, k_75, k_80, k_81, k_82, k_83, k_84, k_85, k_98, k_99, k_100, k_102, k_114, k_115, k_119, k_121, k_126, k_200, k_999, k_1000, k_3000, k_9999, k_65537, k_1000000, k_999999999, k_500, n_mul, n_add, n_sub, n_div]
        rw [e]
        refine pk_le 3 (x % 100) (fun w => ?_) (fun w => ?_)
        · rw [if_neg (by omega)] at h; exact h
        · rw [if_pos ⟨by omega, by omega⟩] at h
          have e2 : 3 * nI (x / 100 - 1) + nI (x % 100) = nI (3 * (x / 100 - 1) + x % 100) := by simp (disch := omega) only [k_0, k_1, k_2, k_3, k_4, k_5, k_6, k_7, k_8, k_9, k_10, k_15, k_16, k_18, k_20, k_26, k_27, k_31, k_33, k_46, k_48, k_49, k_51, k_53, k_57, k_60, k_61, k_63, k_64, k_65, k_70, k_71, k_74, k_75, k_80, k_81, k_82, k_83, k_84, k_85, k_98, k_99, k_100, k_102, k_114, k_115, k_119, k_121, k_126, k_200, k_999, k_1000, k_3000, k_9999, k_65537, k_1000000, k_999999999, k_500, n_mul, n_add, n_sub, n_div]
          rw [e2, aI_rd s2 (by omega)]
          exact ⟨vp_in_nI (by omega) (by decide), h⟩
