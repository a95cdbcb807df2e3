/-! guesses: gathered, tallied -/
def RGu (vu : Gu) (S : Sta) (kp : Nat → Nat) (n : Nat) : Prop := REc vu S kp 10 ∧ RT0 vu ∧ Gu_count vu = nI (cG S kp n) ∧ ∀ u, u < n → okG S kp u → Gu_fitting vu (cG S kp u) = nI u
set_option maxHeartbeats 200000 in
theorem RGu_no {vu : Gu} {S : Sta} {kp : Nat → Nat} {n : Nat} (h : RGu vu S kp n) (q : ¬ okG S kp n) : RGu vu S kp (n + 1) := by
  obtain ⟨h1, h2, h3, h4⟩ := h
  refine ⟨h1, h2, by rw [cG_no q]; exact h3, fun u hu ho => h4 u ?_ ho⟩
  rcases Nat.lt_or_ge u n with w | w
  · exact w
  · exact absurd ((show u = n by omega) ▸ ho) q
set_option maxHeartbeats 200000 in
theorem pX4_gather {vu : Gu} {g : Gr} {co : Co} {S : Sta} {D : Day} {Q : Gu → Gr → Co → Prop} (hR : RG g S D) (hS : WS S) (hD : WD D) (hT : RT0 vu) (h : ∀ vu' co', RGu vu' S (zkp D) 100 → Q vu' g co') : wpX4_gather vu g co Q := by
  unfold wpX4_gather
  refine pX4_fillEcho hR hS hD (fun vu1 co1 e1 hE1 => ?_)
  have key : ∀ d, d ≤ 10 → ∃ n, ∀ vu2 : Gu, RGu vu2 S (zkp D) (10 * d) → wpX4_gather_L13 Q n vu2 g co1 (nI d) := by
    refine up_loop 10 (fun n => ?_) (fun n d hd ih => ?_)
    · intro vu2 y
      show wpX4_gather_H13 Q _ _ _ _ _
      unfold wpX4_gather_H13
      exact br_t (nI_le (by decide) (by decide)) (h vu2 co1 y)
    · intro vu2 y
      show wpX4_gather_H13 Q _ _ _ _ _
      unfold wpX4_gather_H13
      refine br_f (nI_ge hd (by decide)) ?_
      have inner : ∀ t, t ≤ 10 → ∃ k, 1 ≤ t → ∀ vu3 : Gu, RGu vu3 S (zkp D) (10 * d + t) → wpX4_gather_L22 Q (wpX4_gather_L13 Q n) k vu3 g co1 (nI d) (nI t) := by
        refine up_loop 10 (fun k => ?_) (fun k t ht iht => ?_)
        · intro _ vu3 z
          show wpX4_gather_H22 Q _ _ _ _ _ _ _
          unfold wpX4_gather_H22
          exact br_t (nI_lt (by decide) (by decide)) (nm_r (nI_1 d) (ih vu3 z))
        · intro t1 vu3 z
          show wpX4_gather_H22 Q _ _ _ _ _ _ _
          unfold wpX4_gather_H22
          have ee : 10 * nI d + nI t = nI (10 * d + t) := by simp (disch := omega) only [k_0, k_1, k_2, k_3, k_4, k_5, k_6, k_7, k_8, k_9, k_10, k_15, k_16, k_18, k_20, k_26, k_27, k_31, k_33, k_46, k_48, k_49, k_51, k_53, k_57, k_60, k_61, k_63, k_64, k_65, k_70, k_71, k_74, k_75, k_80, k_81, k_82, k_83, k_84, k_85, k_98, k_99, k_100, k_102, k_114, k_115, k_119, k_121, k_126, k_200, k_999, k_1000, k_3000, k_9999, k_65537, k_1000000, k_999999999, k_500, n_mul, n_add, n_sub, n_div]
          have um : 1 ≤ (10 * d + t) % 10 := by omega
          rw [ee]
          refine br_f (nI_nlt (a := 9) (b := t) (by omega) (by decide)) ?_
          refine pX4_fits hR hS z.1 (by omega) um (fun q => ?_) (fun q => ?_)
          · have ok : okG S (zkp D) (10 * d + t) := ⟨um, q⟩
            have c1 := cG_90 (S := S) (kp := zkp D) d (t - 1) (by omega)
            have e9 : 10 * d + (t - 1 + 1) = 10 * d + t := by omega
            rw [e9] at c1
            obtain ⟨z1, z2, z3, z4⟩ := z
            rw [z3]
            refine br_f one_ne ⟨vp_in_nI (by omega) (by decide), nm_r (nI_1 t) (iht (by omega) _ ⟨z1, z2, ?_, fun u hu ho => ?_⟩)⟩
            · show nI (cG S (zkp D) (10 * d + t)) + 1 = nI (cG S (zkp D) (10 * d + t + 1))
              rw [cG_ok ok]; exact nI_1 _
            · show upd (Gu_fitting vu3) (nI (cG S (zkp D) (10 * d + t))).toNatClampNeg _ _ = _
              rw [nI_clamp (show cG S (zkp D) (10 * d + t) < 2 ^ 31 by omega)]
              unfold upd
              by_cases q2 : u = 10 * d + t
              · rw [if_pos (by rw [q2]), q2]
              · rw [if_neg ?_]
                · exact z4 u (by omega) ho
                · have w1 := cG_ok ho
                  have w2 := cG_mono (S := S) (kp := zkp D) (u + 1) (10 * d + t - (u + 1))
                  have e8 : u + 1 + (10 * d + t - (u + 1)) = 10 * d + t := by omega
                  rw [e8] at w2
                  omega
          · exact br_t rfl (nm_r (nI_1 t) (iht (by omega) vu3 (RGu_no z (fun w => q w.2))))
      obtain ⟨k, hk⟩ := inner 1 (by decide)
      exact ⟨k, hk (by decide) vu2 (RGu_no y (fun w => absurd w.1 (by omega)))⟩
  obtain ⟨n, hn⟩ := key 0 (by decide)
  refine ⟨n, hn _ ⟨hE1, fun v hv => ?_, rfl, fun u hu => absurd hu (Nat.not_lt_zero u)⟩⟩
  show Gu_tally vu1 v = 0
  rw [e1]; exact hT v hv
set_option maxHeartbeats 200000 in
theorem RGu_at {vu : Gu} {S : Sta} {kp : Nat → Nat} {j : Nat} (h : RGu vu S kp 100) (hj : j < cG S kp 100) : Gu_fitting vu (nI j).toNatClampNeg = nI (gth S kp 100 j) := by
  have c := cG_100 (S := S) (kp := kp)
  have g := gth_is hj
  rw [nI_clamp (show j < 2 ^ 31 by omega)]
  have w := h.2.2.2 _ g.1 g.2.1
  rw [g.2.2] at w
  exact w
set_option maxHeartbeats 200000 in
theorem pX6_shown {g : Gr} {co : Co} {vu : Gu} {S : Sta} {D : Day} {p1 : Int32} {Q : Int32 → Gr → Co → Gu → Prop} (hR : RG g S D) (hS : WS S) (hD : WD D) (hT : RT0 vu) (h : ∀ co' vu', RT0 vu' → Q (shownA S (zkp D) p1) g co' vu') : wpX6_shown g co vu p1 Q := by
  have c := cG_100 (S := S) (kp := zkp D)
  unfold shownA at h
  unfold wpX6_shown
  refine pX4_gather hR hS hD hT (fun vu1 co1 y => ?_)
  rw [y.2.2.1]
  refine bn_c (fun u => ?_) (fun u => ?_)
  · rw [if_neg u] at h
    refine ck1X6_isWithin (fun c1 => ?_) (fun c1 => ?_)
    · rw [if_neg ?_] at h
      · exact h co1 vu1 y.2.1
      · intro w
        refine c1 ⟨w.1, fun w2 => ?_⟩
        obtain ⟨j, hj, rfl⟩ := nI_of w.1
        have w3 := w.2
        rw [nI_clamp (show j < 2 ^ 31 by omega)] at w3
        have e : nI (cG S (zkp D) 100) - 1 = nI (cG S (zkp D) 100 - 1) := by simp (disch := omega) only [k_0, k_1, k_2, k_3, k_4, k_5, k_6, k_7, k_8, k_9, k_10, k_15, k_16, k_18, k_20, k_26, k_27, k_31, k_33, k_46, k_48, k_49, k_51, k_53, k_57, k_60, k_61, k_63, k_64, k_65, k_70, k_71, k_74, k_75, k_80, k_81, k_82, k_83, k_84, k_85, k_98, k_99, k_100, k_102, k_114, k_115, k_119, k_121, k_126, k_200, k_999, k_1000, k_3000, k_9999, k_65537, k_1000000, k_999999999, k_500, n_mul, n_add, n_sub, n_div]
        rw [e] at w2
        have w4 := (nI_ltI (by omega) hj).mp w2
        omega
    · obtain ⟨j, hj, rfl⟩ := nI_of c1.1
      have hlt : j < cG S (zkp D) 100 := by
        rcases Nat.lt_or_ge j (cG S (zkp D) 100) with w | w
        · exact w
        · refine absurd ?_ c1.2
          rcases Nat.eq_zero_or_pos (cG S (zkp D) 100) with w0 | w0
          · rw [w0]
            have e : nI 0 - 1 = -1 := by decide
            rw [e]
            refine Int32.lt_iff_toInt_lt.mpr ?_
            rw [nI_toInt hj]
            have : (-1 : Int32).toInt = -1 := by decide
            omega
          · have e : nI (cG S (zkp D) 100) - 1 = nI (cG S (zkp D) 100 - 1) := by simp (disch := omega) only [k_0, k_1, k_2, k_3, k_4, k_5, k_6, k_7, k_8, k_9, k_10, k_15, k_16, k_18, k_20, k_26, k_27, k_31, k_33, k_46, k_48, k_49, k_51, k_53, k_57, k_60, k_61, k_63, k_64, k_65, k_70, k_71, k_74, k_75, k_80, k_81, k_82, k_83, k_84, k_85, k_98, k_99, k_100, k_102, k_114, k_115, k_119, k_121, k_126, k_200, k_999, k_1000, k_3000, k_9999, k_65537, k_1000000, k_999999999, k_500, n_mul, n_add, n_sub, n_div]
            rw [e]
            exact nI_lt (by omega) hj
      rw [if_pos ⟨c1.1, by rw [nI_clamp (show j < 2 ^ 31 by omega)]; exact hlt⟩, nI_clamp (show j < 2 ^ 31 by omega)] at h
      refine ⟨vp_in_nI (by omega) (by decide), ?_⟩
      rw [RGu_at y hlt]
      exact h co1 vu1 y.2.1
  · rw [if_pos u] at h
    exact h co1 vu1 y.2.1
set_option maxHeartbeats 200000 in
theorem am_nI {n : Nat} {A B : Prop} (hn : n ≤ 999) (hB : B) : wpX6_isAmount (nI n) (fun r => (r = 0 → A) ∧ (¬ r = 0 → B)) := ck1X6_isAmount (fun c => absurd (show inR (nI n) 0 999 from inR_of (n := 999) (by decide) hn) c) (fun _ => hB)
set_option maxHeartbeats 200000 in
theorem pX4_mostLeft {vu : Gu} {S : Sta} {kp : Nat → Nat} {day : Nat} {Q : Int32 → Gu → Prop} (hG : RGu vu S kp 100) (hd : day ≤ 60) (h : ∀ vu', RGu vu' S kp 100 → Q (nI (mlA S kp day)) vu') : wpX4_mostLeft vu (nI day) Q := by
  have c := cG_100 (S := S) (kp := kp)
  unfold wpX4_mostLeft
  -- the second loop
  have k2 : ∀ j, j ≤ cG S kp 100 → ∃ n, ∀ vu2 : Gu, REc vu2 S kp 10 → Gu_count vu2 = nI (cG S kp 100) → (∀ u, u < 100 → okG S kp u → Gu_fitting vu2 (cG S kp u) = nI u) → (∀ v, v < 1000 → Gu_tally vu2 v ≠ 0 → ∃ i, j ≤ i ∧ i < cG S kp 100 ∧ sbA S kp (gth S kp 100 i) day = v) → wpX4_mostLeft_L64 Q n vu2 (nI day) (nI (mlA S kp day)) (nI j) := by
    refine up_loop (cG S kp 100) (fun n => ?_) (fun n j hj ih => ?_)
    · intro vu2 z1 z2 z3 z4
      show wpX4_mostLeft_H64 Q _ _ _ _ _
      unfold wpX4_mostLeft_H64
      rw [z2]
      refine br_t (nI_le (Nat.le_refl _) (by omega)) (h vu2 ⟨z1, fun v hv => ?_, z2, z3⟩)
      by_cases q : Gu_tally vu2 v = 0
      · exact q
      · obtain ⟨i, w1, w2, -⟩ := z4 v hv q
        omega
    · intro vu2 z1 z2 z3 z4
      show wpX4_mostLeft_H64 Q _ _ _ _ _
      unfold wpX4_mostLeft_H64
      have gi := gth_is hj
      have ef : Gu_fitting vu2 (nI j).toNatClampNeg = nI (gth S kp 100 j) := by
        rw [nI_clamp (show j < 2 ^ 31 by omega)]
        have w := z3 _ gi.1 gi.2.1
        rw [gi.2.2] at w
        exact w
      have sb := sbA_le S kp (gth S kp 100 j) day
      rw [z2, ef]
      refine br_f (nI_ge hj (by omega)) ⟨vp_in_nI (by omega) (by decide), pX4_seenBy z1 gi.1 gi.2.1.1 hd (am_nI (by omega) ⟨vp_in_nI (by omega) (by decide), nm_r (nI_1 j) (ih _ z1 z2 z3 (fun v hv hz => ?_))⟩)⟩
      have hz2 : upd (Gu_tally vu2) (nI (sbA S kp (gth S kp 100 j) day)).toNatClampNeg 0 v ≠ 0 := hz
      rw [nI_clamp (show sbA S kp (gth S kp 100 j) day < 2 ^ 31 by omega)] at hz2
      unfold upd at hz2
      by_cases q : v = sbA S kp (gth S kp 100 j) day
      · rw [if_pos q] at hz2; exact absurd rfl hz2
      · rw [if_neg q] at hz2
        obtain ⟨i, w1, w2, w3⟩ := z4 v hv hz2
        refine ⟨i, ?_, w2, w3⟩
        rcases Nat.lt_or_ge j i with w | w
        · exact w
        · have : i = j := by omega
          rw [this] at w3
          exact absurd w3.symm q
  have k1 : ∀ j, j ≤ cG S kp 100 → ∃ n, ∀ vu2 : Gu, REc vu2 S kp 10 → Gu_count vu2 = nI (cG S kp 100) → (∀ u, u < 100 → okG S kp u → Gu_fitting vu2 (cG S kp u) = nI u) → aI 1000 (Gu_tally vu2) (TJ S kp day j) → wpX4_mostLeft_L4 Q n vu2 (nI day) (nI (MJ S kp day j)) (nI j) := by
    refine up_loop (cG S kp 100) (fun n => ?_) (fun n j hj ih => ?_)
    · intro vu2 z1 z2 z3 z4
      show wpX4_mostLeft_H4 Q _ _ _ _ _
      unfold wpX4_mostLeft_H4
      rw [z2]
      obtain ⟨n2, hn2⟩ := k2 0 (Nat.zero_le _)
      refine br_t (nI_le (Nat.le_refl _) (by omega)) ⟨n2, hn2 vu2 z1 z2 z3 (fun v hv hz => ?_)⟩
      rw [z4 v hv] at hz
      obtain ⟨i, w1, w2⟩ := TJ_nz (S := S) (kp := kp) (day := day) (cG S kp 100) v (fun w => hz (by rw [w]; rfl))
      exact ⟨i, Nat.zero_le _, w1, w2⟩
    · intro vu2 z1 z2 z3 z4
      show wpX4_mostLeft_H4 Q _ _ _ _ _
      unfold wpX4_mostLeft_H4
      have gi := gth_is hj
      have ef : Gu_fitting vu2 (nI j).toNatClampNeg = nI (gth S kp 100 j) := by
        rw [nI_clamp (show j < 2 ^ 31 by omega)]
        have w := z3 _ gi.1 gi.2.1
        rw [gi.2.2] at w
        exact w
      have sb := sbA_le S kp (gth S kp 100 j) day
      have t1 := TJ_le (S := S) (kp := kp) (day := day) j (sbA S kp (gth S kp 100 j) day)
      have m1 := MJ_le (S := S) (kp := kp) (day := day) j
      rw [z2, ef]
      refine br_f (nI_ge hj (by omega)) ⟨vp_in_nI (by omega) (by decide), pX4_seenBy z1 gi.1 gi.2.1.1 hd (am_nI (by omega) ⟨vp_in_nI (by omega) (by decide), vp_in_nI (by omega) (by decide), vp_in_nI (by omega) (by decide), ?_⟩)⟩
      have et : Gu_tally vu2 (nI (sbA S kp (gth S kp 100 j) day)).toNatClampNeg + 1 = nI (TJ S kp day j (sbA S kp (gth S kp 100 j) day) + 1) := by
        rw [aI_rd z4 (show sbA S kp (gth S kp 100 j) day < 1000 by omega)]
        exact nI_1 _
      rw [et]
      have eu : upd (Gu_tally vu2) (nI (sbA S kp (gth S kp 100 j) day)).toNatClampNeg (nI (TJ S kp day j (sbA S kp (gth S kp 100 j) day) + 1)) (nI (sbA S kp (gth S kp 100 j) day)).toNatClampNeg = nI (TJ S kp day j (sbA S kp (gth S kp 100 j) day) + 1) := if_pos rfl
      rw [eu, if_max (by omega) (by omega)]
      exact nm_e (nm_r (nI_1 j) (ih _ z1 z2 z3 (aI_up z4)))
  obtain ⟨n, hn⟩ := k1 0 (Nat.zero_le _)
  exact ⟨n, hn vu hG.1 hG.2.2.1 hG.2.2.2 (fun v hv => by rw [hG.2.1 v hv]; rfl)⟩
set_option maxHeartbeats 200000 in
theorem pX6_look {g : Gr} {co : Co} {vu : Gu} {S : Sta} {D : Day} {p1 : Int32} {Q : Int32 → Gr → Co → Gu → Prop} (hR : RG g S D) (hS : WS S) (hD : WD D) (hT : RT0 vu) (h : ∀ co' vu', RT0 vu' → Q (lookA S (zkp D) p1) g co' vu') : wpX6_look g co vu p1 Q := by
  have c := cG_100 (S := S) (kp := zkp D)
  unfold lookA at h
  unfold wpX6_look
  refine ck2X6_isWithin (fun c1 => ?_) (fun c1 => ?_)
  · rw [if_pos c1] at h
    refine pX4_gather hR hS hD hT (fun vu1 co1 y => ?_)
    rw [y.2.2.1]
    refine pk_ne (cG S (zkp D) 100) 0 (fun q => ?_) (fun q => ?_)
    · rw [if_neg q] at h
      refine pX4_mostLeft (day := 0) y (by decide) (fun vu2 y2 => ?_)
      have key : ∀ d, d ≤ 60 → ∃ n, ∀ vu3 : Gu, RGu vu3 S (zkp D) 100 → wpX6_look_L54 Q n g co1 vu3 p1 (nI (lkA S (zkp D) d).1) (nI (lkA S (zkp D) d).2) (nI (d + 1)) := by
        refine up_loop 60 (fun n => ?_) (fun n d hd ih => ?_)
        · intro vu3 z
          show wpX6_look_H54 Q _ _ _ _ _ _ _ _
          unfold wpX6_look_H54
          refine br_t (nI_lt (by decide) (by decide)) (bn_c (fun u => ?_) (fun u => ?_))
          · rw [if_neg u] at h; exact h co1 vu3 z.2.1
          · rw [if_pos u] at h; exact h co1 vu3 z.2.1
        · intro vu3 z
          show wpX6_look_H54 Q _ _ _ _ _ _ _ _
          unfold wpX6_look_H54
          have l := lkA_le (S := S) (kp := zkp D) d
          have m1 := mlA_le (S := S) (kp := zkp D) (day := d + 1)
          refine br_f (nI_nlt (a := 60) (b := d + 1) (by omega) (by decide)) ?_
          refine pX4_mostLeft z (by omega) (fun vu4 z4 => ?_)
          refine pk_le (lkA S (zkp D) d).2 (mlA S (zkp D) (d + 1)) (fun w => ?_) (fun w => ?_)
          · have e : lkA S (zkp D) (d + 1) = lkA S (zkp D) d := if_neg (by omega)
            rw [e] at ih
            exact nm_r (nI_1 (d + 1)) (ih vu4 z4)
          · have e : lkA S (zkp D) (d + 1) = (d + 1, mlA S (zkp D) (d + 1)) := if_pos (by omega)
            rw [e] at ih
            exact nm_r (nI_1 (d + 1)) (ih vu4 z4)
      obtain ⟨n, hn⟩ := key 0 (by decide)
      exact ⟨n, hn vu2 y2⟩
    · rw [if_pos q] at h
      exact h co1 vu1 y.2.1
  · rw [if_neg c1] at h; exact h co vu hT
