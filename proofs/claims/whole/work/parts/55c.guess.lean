/-! guesses: the model's side -/
set_option maxHeartbeats 200000 in
theorem FN.same2 {m m' : Mo} (h : FN m m') : Mo_since m' = Mo_since m ∧ Mo_counts m' = Mo_counts m ∧ Mo_echo m' = Mo_echo m ∧ Mo_value m' = Mo_value m := by
  obtain ⟨a, b, c, f, s, o, d, rfl⟩ := h
  exact ⟨rfl, rfl, rfl, rfl⟩
def RSi (m : Mo) (S : Sta) (kp : Nat → Nat) (T : Nat) : Prop := ∀ t d, 1 ≤ t → t < T → d ≤ 60 → Mo_since m (61 * t + d) = nI (ecA (zoff S) kp (10 * t) d)
set_option maxHeartbeats 200000 in
theorem pX7_layShown {m : Mo} {S : Sta} {D : Day} {sg : Nat → Nat} {cnt : Nat} {I J : Nat → Int32} {Q : Mo → Prop} (hR : RMo m S D sg cnt I J) (hS : WS S) (hE : WE D) (h : ∀ m', FX m m' → RSi m' S (zkp D) 10 → Q m') : wpX7_layShown m Q := by
  unfold wpX7_layShown
  have key : ∀ t, t ≤ 10 → ∃ n, 1 ≤ t → ∀ m1 : Mo, FX m m1 → RSi m1 S (zkp D) t → wpX7_layShown_L2 Q n m1 (nI t) := by
    refine up_loop 10 (fun n => ?_) (fun n t ht ih => ?_)
    · intro _ m1 hF y
      show wpX7_layShown_H2 Q _ _ _
      unfold wpX7_layShown_H2
      exact br_t (nI_le (by decide) (by decide)) (h m1 hF y)
    · intro t1 m1 hF y
      show wpX7_layShown_H2 Q _ _ _
      unfold wpX7_layShown_H2
      refine br_f (nI_ge ht (by decide)) ?_
      have hR1 := hF.R hR
      refine pX7_empty hR1.2.1 (fun m2 hF2 hN2 => ⟨vp_in_nI (n := 0) (by decide) (by decide), ?_⟩)
      have e10 : 10 * nI t = nI (10 * t) := by simp (disch := omega) only [k_0, k_1, k_2, k_3, k_4, k_5, k_6, k_7, k_8, k_9, k_10, k_15, k_16, k_18, k_20, k_26, k_27, k_31, k_33, k_46, k_48, k_49, k_51, k_53, k_57, k_60, k_61, k_63, k_64, k_65, k_70, k_71, k_74, k_75, k_80, k_81, k_82, k_83, k_84, k_85, k_98, k_99, k_100, k_102, k_114, k_115, k_119, k_121, k_126, k_200, k_999, k_1000, k_3000, k_9999, k_65537, k_1000000, k_999999999, k_500, n_mul, n_add, n_sub, n_div]
      rw [e10]
      have hy := hE.2.1
      have hN0D : WD (fU (fun _ => 0) 0 (10 * t), (emptyA D).2) := by
        obtain ⟨d1, d2, d3, d4, d5, d6, d7⟩ := hE.1
        exact ⟨fU_le (fun _ => Nat.zero_le _) (by omega), fun _ => Nat.zero_le _, d3, Nat.zero_le _, Nat.zero_le _, d6, d7⟩
      generalize hN0 : ((fU (fun _ => 0) 0 (10 * t), (emptyA D).2) : Day) = N0 at hN0D
      have inner : ∀ d, d ≤ 61 → ∃ k, ∀ m3 : Mo, FX m m3 → RN m3 (waitA (zoff S) d N0) → RSi m3 S (zkp D) t → (∀ e, e < d → Mo_since m3 (61 * t + e) = nI (ecA (zoff S) (zkp D) (10 * t) e)) → wpX7_layShown_L24 Q (wpX7_layShown_L2 Q n) k m3 (nI t) (nI d) := by
        refine up_loop 61 (fun k => ?_) (fun k d hd ihd => ?_)
        · intro m3 hF3 z1 z2 z3
          show wpX7_layShown_H24 Q _ _ _ _ _
          unfold wpX7_layShown_H24
          refine br_t (nI_le (by decide) (by decide)) (nm_r (nI_1 t) (ih (by omega) m3 hF3 (fun t' d' q1 q2 q3 => ?_)))
          by_cases q : t' = t
          · rw [q]; exact z3 d' (by omega)
          · exact z2 t' d' q1 (by omega) q3
        · intro m3 hF3 z1 z2 z3
          show wpX7_layShown_H24 Q _ _ _ _ _
          unfold wpX7_layShown_H24
          have hM3 := (hF3.R hR).1
          have dz : zdy N0 ≤ 99 := by rw [← hN0]; exact hy
          have hWd : WD (waitA (zoff S) d N0) := waitA_WD hN0D d (by omega)
          refine br_f (nI_ge hd (by decide)) (pX7_see (c := 0) hM3 z1 hS hWd (by decide) ?_)
          have es : seeA (zoff S) (waitA (zoff S) d N0) 0 0 = ecA (zoff S) (zkp D) (10 * t) d := by
            refine see_empty hS.1 d ?_ ?_
            · rw [← hN0]; rfl
            · rw [← hN0]
          rw [es]
          have ee : 61 * nI t + nI d = nI (61 * t + d) := by simp (disch := omega) only [k_0, k_1, k_2, k_3, k_4, k_5, k_6, k_7, k_8, k_9, k_10, k_15, k_16, k_18, k_20, k_26, k_27, k_31, k_33, k_46, k_48, k_49, k_51, k_53, k_57, k_60, k_61, k_63, k_64, k_65, k_70, k_71, k_74, k_75, k_80, k_81, k_82, k_83, k_84, k_85, k_98, k_99, k_100, k_102, k_114, k_115, k_119, k_121, k_126, k_200, k_999, k_1000, k_3000, k_9999, k_65537, k_1000000, k_999999999, k_500, n_mul, n_add, n_sub, n_div]
          rw [ee]
          refine ⟨vp_in_nI (by omega) (by decide), ?_⟩
          refine pX7_pass (S := S) (N := waitA (zoff S) d N0) hM3 z1 hS hWd (fun m4 hF4 hN4 => nm_r (nI_1 d) ?_)
          have sm := hF4.same2.1
          refine ihd m4 ((hF3.since _).trans hF4.X) hN4 (fun t' d' q1 q2 q3 => ?_) (fun e he => ?_)
          · rw [sm]
            show upd (Mo_since m3) (nI (61 * t + d)).toNatClampNeg _ _ = _
            rw [nI_clamp (show 61 * t + d < 2 ^ 31 by omega)]
            unfold upd
            rw [if_neg (by omega)]
            exact z2 t' d' q1 q2 q3
          · rw [sm]
            show upd (Mo_since m3) (nI (61 * t + d)).toNatClampNeg _ _ = _
            rw [nI_clamp (show 61 * t + d < 2 ^ 31 by omega)]
            unfold upd
            by_cases q : e = d
            · rw [if_pos (by omega), q]
            · rw [if_neg (by omega)]
              exact z3 e (by omega)
      obtain ⟨k, hk⟩ := inner 0 (by decide)
      have sm := hF2.same2.1
      refine ⟨k, hk _ ((hF.trans hF2.X).trans (FN.X (FN.rf.shown _))) ?_ (fun t' d' q1 q2 q3 => ?_) (fun e he => absurd he (Nat.not_lt_zero e))⟩
      · show RN _ N0
        rw [← hN0]
        obtain ⟨n1, n2, n3, n4, n5, n6, n7⟩ := hN2
        exact ⟨aI_up (k := 0) n1, n2, n3, n4, n5, n6, n7⟩
      · show Mo_since m2 _ = _
        rw [sm]; exact y t' d' q1 q2 q3
  obtain ⟨n, hn⟩ := key 1 (by decide)
  exact ⟨n, hn (by decide) m FX.rf (fun t d q1 q2 => absurd q2 (by omega))⟩
set_option maxHeartbeats 200000 in
theorem pX7_seenOn {m : Mo} {S : Sta} {kp : Nat → Nat} {u day : Nat} {Q : Int32 → Mo → Prop} (hE : RSi m S kp 10) (hu : u < 100) (h1 : 1 ≤ u % 10) (hd : day ≤ 60) (h : Q (nI (sbA S kp u day)) m) : wpX7_seenOn m (nI (u / 10)) (nI (u % 10)) (nI day) Q := by
  unfold sbA at h
  unfold wpX7_seenOn
  refine pk_le (u / 10) day (fun q => ?_) (fun q => ?_)
  · rw [if_pos q] at h
    have e4 : 61 * nI (u % 10) + nI day - nI (u / 10) = nI (61 * (u % 10) + (day - u / 10)) := by
      simp (disch := omega) only [k_0, k_1, k_2, k_3, k_4, k_5, k_6, k_7, k_8, k_9, k_10, k_15, k_16, k_18, k_20, k_26, k_27, k_31, k_33, k_46, k_48, k_49, k_51, k_53, k_57, k_60, k_61, k_63, k_64, k_65, k_70, k_71, k_74, k_75, k_80, k_81, k_82, k_83, k_84, k_85, k_98, k_99, k_100, k_102, k_114, k_115, k_119, k_121, k_126, k_200, k_999, k_1000, k_3000, k_9999, k_65537, k_1000000, k_999999999, k_500, n_mul, n_add, n_sub, n_div]
      congr 1; omega
    rw [e4, nI_clamp (show 61 * (u % 10) + (day - u / 10) < 2 ^ 31 by omega), hE (u % 10) (day - u / 10) h1 (by omega) (by omega)]
    exact ⟨vp_in_nI (by omega) (by decide), h⟩
  · rw [if_neg (by omega)] at h; exact h
set_option maxHeartbeats 200000 in
theorem pX7_fits {m : Mo} {S : Sta} {D : Day} {sg : Nat → Nat} {cnt : Nat} {I J : Nat → Int32} {u : Nat} {Q : Int32 → Mo → Prop} (hR : RMo m S D sg cnt I J) (hS : WS S) (hE : RSi m S (zkp D) 10) (hu : u < 100) (hu1 : 1 ≤ u % 10) (h1 : ftA S (zkp D) u → Q 1 m) (h0 : ¬ ftA S (zkp D) u → Q 0 m) : wpX7_fits m (nI (u / 10)) (nI (u % 10)) Q := by
  have hns := hS.2.2.2.1
  have hsn : Mo_sights m = nI (zns S) := hR.2.2.1
  have hst := hR.2.2.2.1
  unfold wpX7_fits
  have key0 : ∀ i, i ≤ zns S → ∃ n, ¬ ftA S (zkp D) u → wpX7_fits_L5 Q n m (nI (u / 10)) (nI (u % 10)) 0 (nI i) := by
    refine up_loop (zns S) (fun n => ?_) (fun n i hi ih => ?_)
    · intro y
      show wpX7_fits_H5 Q _ _ _ _ _ _
      unfold wpX7_fits_H5
      rw [hsn]
      exact br_t (nI_le (Nat.le_refl _) (by omega)) ⟨Or.inl rfl, h0 y⟩
    · intro y
      show wpX7_fits_H5 Q _ _ _ _ _ _
      unfold wpX7_fits_H5
      rw [hsn]
      exact br_f (nI_ge hi (by omega)) (br_t rfl (nm_r (nI_1 i) (ih y)))
  have key : ∀ i, i ≤ zns S → ∃ n, (∀ j, j < i → sbA S (zkp D) u (zsd S j) = zsa S j) → wpX7_fits_L5 Q n m (nI (u / 10)) (nI (u % 10)) 1 (nI i) := by
    intro i hi
    by_cases w : ftA S (zkp D) u
    · revert i
      refine up_loop (zns S) (fun n => ?_) (fun n i hi ih => ?_)
      · intro y
        show wpX7_fits_H5 Q _ _ _ _ _ _
        unfold wpX7_fits_H5
        rw [hsn]
        exact br_t (nI_le (Nat.le_refl _) (by omega)) ⟨Or.inr rfl, h1 w⟩
      · intro y
        show wpX7_fits_H5 Q _ _ _ _ _ _
        unfold wpX7_fits_H5
        have a1 := hS.2.2.2.2.1 i
        have a2 := hS.2.2.2.2.2 i
        have a3 := sbA_le S (zkp D) u (zsd S i)
        have ee : 2 * nI i = nI (2 * i) := by simp (disch := omega) only [k_0, k_1, k_2, k_3, k_4, k_5, k_6, k_7, k_8, k_9, k_10, k_15, k_16, k_18, k_20, k_26, k_27, k_31, k_33, k_46, k_48, k_49, k_51, k_53, k_57, k_60, k_61, k_63, k_64, k_65, k_70, k_71, k_74, k_75, k_80, k_81, k_82, k_83, k_84, k_85, k_98, k_99, k_100, k_102, k_114, k_115, k_119, k_121, k_126, k_200, k_999, k_1000, k_3000, k_9999, k_65537, k_1000000, k_999999999, k_500, n_mul, n_add, n_sub, n_div]
        rw [hsn, ee, nI_1 (2 * i), nI_clamp (show 2 * i < 2 ^ 31 by omega), nI_clamp (show 2 * i + 1 < 2 ^ 31 by omega), (hst i (by omega)).1]
        refine br_f (nI_ge hi (by omega)) (br_f one_ne ⟨vp_in_nI (by omega) (by decide), pX7_seenOn hE hu hu1 a1 ⟨vp_in_nI (by omega) (by decide), ?_⟩⟩)
        rw [(hst i (by omega)).2]
        exact bn_f (by rw [w i hi]) (nm_r (nI_1 i) (ih (fun j hj => w j (by omega))))
    · -- some sight is otherwise
      have : ∀ j i, i + j = zns S → (∀ j, j < i → sbA S (zkp D) u (zsd S j) = zsa S j) → ∃ n, wpX7_fits_L5 Q n m (nI (u / 10)) (nI (u % 10)) 1 (nI i) := by
        intro j
        induction j with
        | zero => intro i hi y; exact absurd (fun k hk => y k (by omega)) w
        | succ j ihj =>
          intro i hi y
          have a1 := hS.2.2.2.2.1 i
          have a2 := hS.2.2.2.2.2 i
          have a3 := sbA_le S (zkp D) u (zsd S i)
          have ee : 2 * nI i = nI (2 * i) := by simp (disch := omega) only [k_0, k_1, k_2, k_3, k_4, k_5, k_6, k_7, k_8, k_9, k_10, k_15, k_16, k_18, k_20, k_26, k_27, k_31, k_33, k_46, k_48, k_49, k_51, k_53, k_57, k_60, k_61, k_63, k_64, k_65, k_70, k_71, k_74, k_75, k_80, k_81, k_82, k_83, k_84, k_85, k_98, k_99, k_100, k_102, k_114, k_115, k_119, k_121, k_126, k_200, k_999, k_1000, k_3000, k_9999, k_65537, k_1000000, k_999999999, k_500, n_mul, n_add, n_sub, n_div]
          have go : ∀ n, (sbA S (zkp D) u (zsd S i) = zsa S i → wpX7_fits_L5 Q n m (nI (u / 10)) (nI (u % 10)) 1 (nI (i + 1))) → (¬ sbA S (zkp D) u (zsd S i) = zsa S i → wpX7_fits_L5 Q n m (nI (u / 10)) (nI (u % 10)) 0 (nI (i + 1))) → wpX7_fits_L5 Q (n + 1) m (nI (u / 10)) (nI (u % 10)) 1 (nI i) := by
            intro n g1 g0
            show wpX7_fits_H5 Q _ _ _ _ _ _
            unfold wpX7_fits_H5
            rw [hsn, ee, nI_1 (2 * i), nI_clamp (show 2 * i < 2 ^ 31 by omega), nI_clamp (show 2 * i + 1 < 2 ^ 31 by omega), (hst i (by omega)).1]
            refine br_f (nI_ge (by omega) (by omega)) (br_f one_ne ⟨vp_in_nI (by omega) (by decide), pX7_seenOn hE hu hu1 a1 ⟨vp_in_nI (by omega) (by decide), ?_⟩⟩)
            rw [(hst i (by omega)).2]
            exact pk_ne (sbA S (zkp D) u (zsd S i)) (zsa S i) (fun q => nm_r (nI_1 i) (g0 q)) (fun q => nm_r (nI_1 i) (g1 q))
          by_cases q : sbA S (zkp D) u (zsd S i) = zsa S i
          · obtain ⟨n, hn⟩ := ihj (i + 1) (by omega) (fun k hk => by
              by_cases q2 : k = i
              · rw [q2]; exact q
              · exact y k (by omega))
            exact ⟨n + 1, go n (fun _ => hn) (fun w2 => absurd q w2)⟩
          · obtain ⟨n, hn⟩ := key0 (i + 1) (by omega)
            exact ⟨n + 1, go n (fun w2 => absurd w2 q) (fun _ => hn w)⟩
      by_cases y : ∀ j, j < i → sbA S (zkp D) u (zsd S j) = zsa S j
      · obtain ⟨n, hn⟩ := this (zns S - i) i (by omega) y
        exact ⟨n, fun _ => hn⟩
      · exact ⟨0, fun y2 => absurd y2 y⟩
  obtain ⟨n, hn⟩ := key 0 (Nat.zero_le _)
  exact ⟨n, hn (fun j hj => absurd hj (Nat.not_lt_zero j))⟩
set_option maxHeartbeats 200000 in
theorem pX7_shown {m : Mo} {S : Sta} {D : Day} {sg : Nat → Nat} {cnt : Nat} {I J : Nat → Int32} {p1 : Int32} {Q : Int32 → Mo → Prop} (hR : RMo m S D sg cnt I J) (hS : WS S) (hE : WE D) (h : ∀ m', FX m m' → Q (shownA S (zkp D) p1) m') : wpX7_shown m p1 Q := by
  have c := cG_100 (S := S) (kp := zkp D)
  unfold wpX7_shown
  refine pX7_layShown hR hS hE (fun m1 hF hL => ?_)
  have hR1 := hF.R hR
  have hq := h m1 hF
  unfold shownA at hq
  have key : ∀ d, d ≤ 10 → ∃ n, (∀ u, u < 10 * d → okG S (zkp D) u → p1 ≠ nI (cG S (zkp D) u)) → wpX7_shown_L8 Q n m1 p1 (nI (cG S (zkp D) (10 * d))) (nI d) := by
    refine up_loop 10 (fun n => ?_) (fun n d hd ih => ?_)
    · intro y
      show wpX7_shown_H8 Q _ _ _ _ _
      unfold wpX7_shown_H8
      refine br_t (nI_le (by decide) (by decide)) (bn_c (fun w => ?_) (fun w => ?_))
      · rw [if_neg w, if_neg ?_] at hq
        · exact hq
        · intro w2
          obtain ⟨j, hj, rfl⟩ := nI_of w2.1
          have w3 := w2.2
          rw [nI_clamp (show j < 2 ^ 31 by omega)] at w3
          have gi := gth_is w3
          exact y _ gi.1 gi.2.1 (by rw [gi.2.2])
      · rw [if_pos w] at hq; exact hq
    · intro y
      show wpX7_shown_H8 Q _ _ _ _ _
      unfold wpX7_shown_H8
      refine br_f (nI_ge hd (by decide)) ?_
      have inner : ∀ t, t ≤ 10 → ∃ k, 1 ≤ t → (∀ u, u < 10 * d + t → okG S (zkp D) u → p1 ≠ nI (cG S (zkp D) u)) → wpX7_shown_L17 Q (wpX7_shown_L8 Q n) k m1 p1 (nI (cG S (zkp D) (10 * d + t))) (nI d) (nI t) := by
        refine up_loop 10 (fun k => ?_) (fun k t ht iht => ?_)
        · intro _ z
          show wpX7_shown_H17 Q _ _ _ _ _ _ _
          unfold wpX7_shown_H17
          exact br_t (nI_le (by decide) (by decide)) (nm_r (nI_1 d) (ih z))
        · intro t1 z
          show wpX7_shown_H17 Q _ _ _ _ _ _ _
          unfold wpX7_shown_H17
          have um : 1 ≤ (10 * d + t) % 10 := by omega
          have ee : 10 * nI d + nI t = nI (10 * d + t) := by simp (disch := omega) only [k_0, k_1, k_2, k_3, k_4, k_5, k_6, k_7, k_8, k_9, k_10, k_15, k_16, k_18, k_20, k_26, k_27, k_31, k_33, k_46, k_48, k_49, k_51, k_53, k_57, k_60, k_61, k_63, k_64, k_65, k_70, k_71, k_74, k_75, k_80, k_81, k_82, k_83, k_84, k_85, k_98, k_99, k_100, k_102, k_114, k_115, k_119, k_121, k_126, k_200, k_999, k_1000, k_3000, k_9999, k_65537, k_1000000, k_999999999, k_500, n_mul, n_add, n_sub, n_div]
          have c1 := cG_le (S := S) (kp := zkp D) (10 * d + t)
          refine br_f (nI_ge ht (by decide)) ?_
          have pf := pX7_fits (u := 10 * d + t) (Q := (fun r_3 vm_4 => ((r_3 = 0 → wpX7_shown_B50 Q (wpX7_shown_L8 Q n) (wpX7_shown_L17 Q (wpX7_shown_L8 Q n) k) vm_4 p1 (nI (cG S (zkp D) (10 * d + t))) (nI d) (nI t)) ∧ (¬ r_3 = 0 → ((¬ nI (cG S (zkp D) (10 * d + t)) = p1 → (∀ x2_5 : Int32, x2_5 = nI (cG S (zkp D) (10 * d + t)) + 1 → wpX7_shown_B50 Q (wpX7_shown_L8 Q n) (wpX7_shown_L17 Q (wpX7_shown_L8 Q n) k) vm_4 p1 x2_5 (nI d) (nI t))) ∧ (nI (cG S (zkp D) (10 * d + t)) = p1 → Q (((10 : Int32) * nI d) + nI t) vm_4)))))) hR1 hS hL (by omega) um
          rw [show (10 * d + t) / 10 = d by omega, show (10 * d + t) % 10 = t by omega] at pf
          refine pf (fun q => br_f one_ne ?_) (fun q => br_t rfl ?_)
          · have ok : okG S (zkp D) (10 * d + t) := ⟨um, q⟩
            refine bn_c (fun w => ?_) (fun w => ?_)
            · refine nm_r (nI_1 _) ?_
              unfold wpX7_shown_B50
              refine nm_r (nI_1 t) ?_
              have e2 := cG_ok ok
              rw [← e2]
              refine iht (by omega) (fun u hu ho => ?_)
              by_cases q2 : u = 10 * d + t
              · rw [q2]; exact fun w2 => w w2.symm
              · exact z u (by omega) ho
            · rw [ee]
              have g1 := gth_ok ok 100 (by omega)
              have cl : cG S (zkp D) (10 * d + t) < cG S (zkp D) 100 := by
                have e2 := cG_ok ok
                have e3 := cG_mono (S := S) (kp := zkp D) (10 * d + t + 1) (100 - (10 * d + t + 1))
                rw [show 10 * d + t + 1 + (100 - (10 * d + t + 1)) = 100 by omega] at e3
                omega
              rw [← w] at hq
              rw [if_neg ?_, nI_clamp (show cG S (zkp D) (10 * d + t) < 2 ^ 31 by omega), if_pos ⟨nI_pos (by omega), cl⟩, g1] at hq
              · exact hq
              · intro w2
                have w3 : (nI (cG S (zkp D) (10 * d + t))).toInt = (-1 : Int32).toInt := by rw [w2]
                rw [nI_toInt (by omega)] at w3
                have : (-1 : Int32).toInt = -1 := by decide
                omega
          · have nok : ¬ okG S (zkp D) (10 * d + t) := fun w => q w.2
            unfold wpX7_shown_B50
            refine nm_r (nI_1 t) ?_
            have e2 := cG_no nok
            rw [← e2]
            refine iht (by omega) (fun u hu ho => ?_)
            by_cases q2 : u = 10 * d + t
            · exact absurd (q2 ▸ ho) nok
            · exact z u (by omega) ho
      obtain ⟨k, hk⟩ := inner 1 (by decide)
      refine ⟨k, ?_⟩
      have nok : ¬ okG S (zkp D) (10 * d) := fun w => absurd w.1 (by omega)
      have e2 := cG_no nok
      rw [← e2]
      refine hk (by decide) (fun u hu ho => ?_)
      by_cases q2 : u = 10 * d
      · exact absurd (q2 ▸ ho) nok
      · exact y u (by omega) ho
  obtain ⟨n, hn⟩ := key 0 (by decide)
  exact ⟨n, hn (fun u hu => absurd hu (Nat.not_lt_zero u))⟩
