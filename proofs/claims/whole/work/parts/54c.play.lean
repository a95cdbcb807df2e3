/-! days played: the model's side -/
set_option maxHeartbeats 200000 in
theorem FN.same {m m' : Mo} (h : FN m m') : Mo_reason m' = Mo_reason m ∧ Mo_acts m' = Mo_acts m ∧ Mo_brokenAt m' = Mo_brokenAt m := by
  obtain ⟨a, b, c, f, s, o, d, rfl⟩ := h
  exact ⟨rfl, rfl, rfl⟩
set_option maxHeartbeats 200000 in
theorem pX7_whyNotWear {m : Mo} {S : Sta} {N : Day} {k : Nat} {Q : Int32 → Mo → Prop} (hM : RMS m S) (hR : RN m N) (hS : WS S) (hE : WE N) (hk : k < 6) (h : Q (nI (hdA S N k)) m) : wpX7_whyNotWear m (nI k) Q := by
  obtain ⟨hD, -, hs⟩ := hE
  have hsh : aI 3 (Mo_shown m) (zsh N) := hR.1
  have hou : Mo_outNow m = nI (zou N) := hR.2.2.2.2.2.1
  have ho := hD.2.2.2.2.2.1
  have stepA : ∀ n i, i < 3 → (zsh N i + zds S (3 * k + i) ≤ 999 → wpX7_whyNotWear_L4 Q n m (nI k) 0 (nI (i + 1))) → (¬ zsh N i + zds S (3 * k + i) ≤ 999 → wpX7_whyNotWear_L4 Q n m (nI k) 1 (nI (i + 1))) → wpX7_whyNotWear_L4 Q (n + 1) m (nI k) 0 (nI i) := by
    intro n i hi h1 h0
    show wpX7_whyNotWear_H4 Q _ _ _ _ _
    unfold wpX7_whyNotWear_H4
    have b1 := hs i
    have b2 := hS.2.1 (3 * k + i)
    have e : 3 * nI k + nI i = nI (3 * k + i) := by simp (disch := omega) only [k_0, k_1, k_2, k_3, k_4, k_5, k_6, k_7, k_8, k_9, k_10, k_15, k_16, k_18, k_20, k_26, k_27, k_31, k_33, k_46, k_48, k_49, k_51, k_53, k_57, k_60, k_61, k_63, k_64, k_65, k_70, k_71, k_74, k_75, k_80, k_81, k_82, k_83, k_84, k_85, k_98, k_99, k_100, k_102, k_114, k_115, k_119, k_121, k_126, k_200, k_999, k_1000, k_3000, k_9999, k_65537, k_1000000, k_999999999, k_500, n_mul, n_add, n_sub, n_div]
    rw [e, aI_rd hsh hi, aI_rd hM.2.1 (by omega), n_add]
    refine br_f (nI_ge hi (by decide)) (bn_f rfl ⟨vp_in_nI hi (by decide), vp_in_nI (by omega) (by decide), ?_⟩)
    exact pk_le _ 999 (fun q => nm_r (nI_1 i) (h1 q)) (fun q => nm_r (nI_1 i) (h0 (by omega)))
  have stepB : ∀ n i, i < 3 → wpX7_whyNotWear_L4 Q n m (nI k) 1 (nI (i + 1)) → wpX7_whyNotWear_L4 Q (n + 1) m (nI k) 1 (nI i) := by
    intro n i hi h1
    show wpX7_whyNotWear_H4 Q _ _ _ _ _
    unfold wpX7_whyNotWear_H4
    exact br_f (nI_ge hi (by decide)) (bn_t one_ne (nm_r (nI_1 i) h1))
  have finA : ∀ n, (hasN (zou N) k → Q 2 m) → (¬ hasN (zou N) k → Q 0 m) → wpX7_whyNotWear_L4 Q (n + 1) m (nI k) 0 (nI 3) := by
    intro n h1 h0
    show wpX7_whyNotWear_H4 Q _ _ _ _ _
    unfold wpX7_whyNotWear_H4
    rw [hou]
    exact br_t (by decide) (br_t rfl (pX7_has (by omega) (by omega) (fun q => br_f one_ne (h1 q)) (fun q => br_t rfl (h0 q))))
  have finB : ∀ n, Q 1 m → wpX7_whyNotWear_L4 Q (n + 1) m (nI k) 1 (nI 3) := by
    intro n h1
    show wpX7_whyNotWear_H4 Q _ _ _ _ _
    unfold wpX7_whyNotWear_H4
    exact br_t (by decide) (br_f one_ne h1)
  unfold hdA at h
  unfold wpX7_whyNotWear
  refine ⟨4, stepA 3 0 (by decide) (fun q0 => stepA 2 1 (by decide) (fun q1 => stepA 1 2 (by decide) (fun q2 => finA 0 (fun q => ?_) (fun q => ?_)) (fun q2 => finB 0 ?_)) (fun q1 => stepB 1 2 (by decide) (finB 0 ?_))) (fun q0 => stepB 2 1 (by decide) (stepB 1 2 (by decide) (finB 0 ?_)))⟩
  · rw [if_pos ⟨q0, q1, q2⟩, if_pos q] at h; exact h
  · rw [if_pos ⟨q0, q1, q2⟩, if_neg q] at h; exact h
  · rw [if_neg (fun w => q2 w.2.2)] at h; exact h
  · rw [if_neg (fun w => q1 w.2.1)] at h; exact h
  · rw [if_neg (fun w => q0 w.1)] at h; exact h
set_option maxHeartbeats 200000 in
theorem pX7_note {m : Mo} {S : Sta} {N : Day} {b : Option Nat} {d0 : Nat} {Q : Mo → Prop} (hM : RMS m S) (hR : RN m N) (hS : WS S) (hD : WD N) (hd0 : Mo_day m = nI d0) (hd : d0 ≤ zdy N) (hb : ∀ x, b = some x → x ≤ 1000) (hy : Mo_brokenAt m = oI b) (h : Q (Mo_s_brokenAt m (oI (noteA S d0 N b)))) : wpX7_note m Q := by
  have hdy : Mo_dayNow m = nI (zdy N) := hR.2.2.2.2.2.2
  unfold wpX7_note
  rw [hy]
  cases b with
  | some x => exact br_t (nI_le (Nat.zero_le x) (by have := hb x rfl; omega)) h
  | none =>
    refine br_f (by decide) (pX7_isOver hM hR hS hD (fun q => ?_) (fun q => ?_))
    · have e3 : noteA S d0 N none = some (zdy N - d0) := if_pos q
      rw [e3] at h
      refine br_f one_ne ?_
      rw [hdy, hd0, n_sub hd]; exact h
    · have e3 : noteA S d0 N none = none := if_neg q
      rw [e3] at h
      refine br_t rfl ?_
      rw [hy]; exact h
set_option maxHeartbeats 200000 in
theorem pX7_goDays {m : Mo} {S : Sta} {D : Day} {sg : Nat → Nat} {cnt : Nat} {I J : Nat → Int32} {Q : Int32 → Mo → Prop} (hR : RMo m S D sg cnt I J) (hS : WS S) (hE : WE D) (hs : ∀ j, 0 ≤ sg j ∧ sg j ≤ 126) (hc : cnt ≤ 60) (hf : flt sg cnt 61 0 = -6)
    (h0 : (plA S D sg cnt).1 = 0 → ∀ m', FX m m' → RN m' (plA S D sg cnt).2.2.1 → Mo_acts m' = nI (plA S D sg cnt).2.1 → Mo_brokenAt m' = oI (plA S D sg cnt).2.2.2 → Q (-6) m')
    (h1 : ¬ (plA S D sg cnt).1 = 0 → ∀ m', FX m m' → Mo_reason m' = nI (plA S D sg cnt).1 → Q (nI (plA S D sg cnt).2.1) m') : wpX7_goDays m Q := by
  unfold plA at h0 h1
  generalize hP0 : playA S sg cnt (zdy D) 61 0 0 D none = P at h0 h1
  unfold wpX7_goDays
  refine pX7_asNow hR.2.1 (fun m1 hF1 hN1 => ?_)
  have key : ∀ n p a (D1 : Day) b (m1 : Mo), flt sg cnt n p = -6 → cnt ≤ p + n → p < 1000 → a + n ≤ 61 → WE D1 → zdy D ≤ zdy D1 → (∀ x, b = some x → x ≤ 99) → FX m m1 → RN m1 D1 → Mo_acts m1 = nI a → Mo_brokenAt m1 = oI b → P = playA S sg cnt (zdy D) n p a D1 b → wpX7_goDays_L17 Q (n + 1) m1 (nI p) := by
    intro n
    induction n with
    | zero =>
      intro p a D1 b m1 _ hp hp2 ha hE1 hd hb hF hN z2 z3 heq
      have hR1 := hF.R hR
      rw [playA_end (by omega)] at heq
      rw [heq] at h0
      show wpX7_goDays_H17 Q _ _ _
      unfold wpX7_goDays_H17
      rw [show Mo_signs m1 = nI cnt from hR1.2.2.2.2.1]
      exact br_t (nI_le (by omega) (by omega)) (pX7_note hR1.1 hN hS hE1.1 hR1.2.1.2.2.2.2.2.2 hd (fun x hx => Nat.le_trans (hb x hx) (by decide)) z3 (h0 rfl _ (hF.brokenAt _) hN z2 rfl))
    | succ n ih =>
      intro p a D1 b m1 hf1 hp hp2 ha hE1 hd hb hF hN z2 z3 heq
      have hR1 := hF.R hR
      have hM1 := hR1.1
      have hpad : aI 60 (Mo_pad m1) sg := hR1.2.2.2.2.2.1
      have hb3 : ∀ x, b = some x → x ≤ 1000 := fun x hx => Nat.le_trans (hb x hx) (by decide)
      show wpX7_goDays_H17 Q _ _ _
      unfold wpX7_goDays_H17
      rw [show Mo_signs m1 = nI cnt from hR1.2.2.2.2.1]
      rcases Nat.lt_or_ge p cnt with q | q
      · obtain ⟨s1, s2, s3, s4, s5⟩ := ok_step hf1 q hc
        have b1 := hs p
        have l := lenA_le (sg := sg) (p := p)
        have hle : hinA S D1 (sg p) (dgA sg p) ≤ 4 := hinA_le
        obtain ⟨n1, n2, n3, n4, n5, n6, n7⟩ := hN
        -- the act is done
        have cont : hinA S D1 (sg p) (dgA sg p) = 0 → ∀ (m2 : Mo) (x : Nat), FX m m2 → RN m2 (actA S D1 (sg p) (dgA sg p)) → Mo_acts m2 = nI a → Mo_brokenAt m2 = oI (if sg p = 46 then noteA S (zdy D) D1 b else b) → Mo_reason m2 = 0 → x + 1 = p + lenA sg p → wpX7_goDays_B287 Q (wpX7_goDays_L17 Q (n + 1)) m2 (nI x) := by
          intro h2 m2 x hF2 hN2 y2 y3 y1 hx
          rw [playA_go q h2] at heq
          have w := actA_WE hS hE1 s1 s3 h2
          have hb2 : ∀ x, (if sg p = 46 then noteA S (zdy D) D1 b else b) = some x → x ≤ 99 := by
            intro x hx
            split at hx
            · exact noteA_le hE1.2.1 hb x hx
            · exact hb x hx
          unfold wpX7_goDays_B287
          rw [y1]
          refine br_t (by decide) (nm_r (nI_1 x) ?_)
          rw [hx]
          refine ih (p + lenA sg p) (a + 1) _ _ _ s5 (by omega) (by omega) (by omega) w.1 (Nat.le_trans hd w.2) hb2 (hF2.acts _) hN2 ?_ y3 heq
          show Mo_acts m2 + 1 = _
          rw [y2]; exact nI_1 _
        -- the act can not be
        have stop : ∀ r, hinA S D1 (sg p) (dgA sg p) = r → r ≠ 0 → ∀ (m2 : Mo) (x : Int32), FX m m2 → Mo_acts m2 = nI a → Mo_reason m2 = nI r → wpX7_goDays_B287 Q (wpX7_goDays_L17 Q (n + 1)) m2 x := by
          intro r er h2 m2 x hF2 y2 y1
          rw [← er] at h2 y1
          rw [playA_no q h2] at heq
          rw [heq] at h1
          unfold wpX7_goDays_B287
          rw [y1, y2]
          refine br_f (fun w => ?_) (h1 h2 m2 hF2 y1)
          exact absurd w (nI_ge (show 0 < hinA S D1 (sg p) (dgA sg p) by omega) (by omega))
        rw [aI_rd hpad (show p < 60 by omega)]
        refine br_f (nI_ge q (by omega)) ⟨vp_in_nI (by omega) (by decide), nm_e ?_⟩
        have lt : takes (sg p) → lenA sg p = 2 := fun t => by unfold lenA; rw [if_pos t]
        have ln : ¬ takes (sg p) → lenA sg p = 1 := fun t => by unfold lenA; rw [if_neg t]
        have col : ∀ c, c < 3 → isCol (sg p) → colN (sg p) = c → (∀ x1_9 : Int32, x1_9 = nI p + 1 → (vp_in x1_9 60 ∧ (∀ x4_10 : Int32, x4_10 = ((10 : Int32) * (((Mo_pad m1) (x1_9).toNatClampNeg) - (48 : Int32))) → (vp_in (nI c) 3 ∧ (((((Mo_shown m1) (nI c).toNatClampNeg) + x4_10) ≤ (999 : Int32) → wpX7_goDays_B84 Q (wpX7_goDays_L17 Q (n + 1)) (Mo_s_reason m1 (0 : Int32)) x1_9 (nI c) x4_10 (0 : Int32)) ∧ (¬ (((Mo_shown m1) (nI c).toNatClampNeg) + x4_10) ≤ (999 : Int32) → wpX7_goDays_B84 Q (wpX7_goDays_L17 Q (n + 1)) (Mo_s_reason m1 (0 : Int32)) x1_9 (nI c) x4_10 (1 : Int32))))))) := by
          intro c hc3 hi hcc
          have t : takes (sg p) := by
            rcases hi with w | w | w
            · exact Or.inl w
            · exact Or.inr (Or.inl w)
            · exact Or.inr (Or.inr (Or.inl w))
          obtain ⟨t1, t2, t3⟩ := s4 t
          have bn := hs (p + 1)
          have bsh := hE1.2.2 c
          refine nm_r (nI_1 p) ⟨vp_in_nI (by omega) (by decide), ?_⟩
          rw [aI_rd hpad (show p + 1 < 60 by omega)]
          have e4 : (10 : Int32) * (nI (sg (p + 1)) - 48) = nI (10 * dgA sg p) := by
            rw [t3]
            simp (disch := omega) only [k_0, k_1, k_2, k_3, k_4, k_5, k_6, k_7, k_8, k_9, k_10, k_15, k_16, k_18, k_20, k_26, k_27, k_31, k_33, k_46, k_48, k_49, k_51, k_53, k_57, k_60, k_61, k_63, k_64, k_65, k_70, k_71, k_74, k_75, k_80, k_81, k_82, k_83, k_84, k_85, k_98, k_99, k_100, k_102, k_114, k_115, k_119, k_121, k_126, k_200, k_999, k_1000, k_3000, k_9999, k_65537, k_1000000, k_999999999, k_500, n_mul, n_add, n_sub, n_div]
          refine nm_r e4 ⟨vp_in_nI hc3 (by decide), ?_⟩
          have n46 : ¬ sg p = 46 := by omega
          have eh : hinA S D1 (sg p) (dgA sg p) = if zsh D1 c + 10 * dgA sg p ≤ 999 then 0 else 1 := by
            unfold hinA
            rw [if_pos hi, hcc]
          have ea : actA S D1 (sg p) (dgA sg p) = (fU (zsh D1) c (zsh D1 c + 10 * dgA sg p), D1.2) := by
            unfold actA
            rw [if_pos hi, hcc]
          rw [aI_rd n1 hc3, n_add]
          refine pk_le _ 999 (fun w => ?_) (fun w => ?_)
          · rw [if_pos w] at eh
            unfold wpX7_goDays_B84
            refine ⟨vp_in_nI hc3 (by decide), bn_f rfl ?_⟩
            unfold wpX7_goDays_B107
            refine ⟨vp_in_nI hc3 (by decide), ?_⟩
            rw [show Mo_shown (Mo_s_reason m1 0) (nI c).toNatClampNeg = nI (zsh D1 c) from aI_rd n1 hc3, n_add]
            refine cont eh _ _ (((hF.reason _).reason _).trans (FN.X (FN.rf.shown _))) ?_ z2 ?_ rfl (by rw [lt t])
            · rw [ea]
              exact ⟨aI_up n1, n2, n3, n4, n5, n6, n7⟩
            · rw [if_neg n46]; exact z3
          · rw [if_neg (by omega)] at eh
            unfold wpX7_goDays_B84
            refine ⟨vp_in_nI hc3 (by decide), bn_t one_ne ?_⟩
            unfold wpX7_goDays_B107
            exact ⟨vp_in_nI hc3 (by decide), stop 1 eh (by decide) _ _ (((hF.reason _).reason _).trans (FN.X (FN.rf.shown _))) z2 rfl⟩
        refine pX7_colourOf (by omega) (fun c => ?_) (fun c => ?_) (fun c => ?_) (fun c1 c2 c3 => ?_)
        · exact br_f (by decide) (col 0 (by decide) (Or.inl c) (by rw [c]; rfl))
        · exact br_f (by decide) (col 1 (by decide) (Or.inr (Or.inl c)) (by rw [c]; rfl))
        · exact br_f (by decide) (col 2 (by decide) (Or.inr (Or.inr c)) (by rw [c]; rfl))
        · have nc : ¬ isCol (sg p) := by omega
          refine br_t (by decide) ?_
          have eh : hinA S D1 (sg p) (dgA sg p) = if isDrs (sg p) then hdA S D1 (sg p - 65) else if sg p = 119 then (if zkp D1 (dgA sg p) = 0 then 3 else 0) else if sg p = 46 then (if zdy D1 < 99 then 0 else 4) else 0 := if_neg nc
          have ea : actA S D1 (sg p) (dgA sg p) = if isDrs (sg p) then drsA S D1 (sg p - 65) else if sg p = 102 then (zsh D1, ztn D1, zkp D1, 1 - zfg D1, zsn D1, zou D1, zdy D1) else if sg p = 115 then (zsh D1, ztn D1, zkp D1, zfg D1, 1 - zsn D1, zou D1, zdy D1) else if sg p = 119 then (zsh D1, ztn D1, fU (zkp D1) (dgA sg p) 0, D1.2.2.2) else passA (zoff S) D1 := if_neg nc
          have f1 := hE1.1.2.2.2.1
          have f2 := hE1.1.2.2.2.2.1
          refine pk_ne (sg p) 119 (fun c4 => ?_) (fun c4 => ?_)
          · have nt : ¬ takes (sg p) := by omega
            rw [if_neg c4] at eh
            refine pk_ne (sg p) 102 (fun c5 => ?_) (fun c5 => ?_)
            · rw [if_neg c5] at ea
              refine pk_ne (sg p) 115 (fun c6 => ?_) (fun c6 => ?_)
              · rw [if_neg c6] at ea
                refine pk_ne (sg p) 46 (fun c7 => ?_) (fun c7 => ?_)
                · have dd : isDrs (sg p) := by
                    rcases s3 with w | w
                    · exact absurd w nt
                    · omega
                  rw [if_pos dd] at eh ea
                  have e5 : nI (sg p) - 65 = nI (sg p - 65) := by simp (disch := omega) only [k_0, k_1, k_2, k_3, k_4, k_5, k_6, k_7, k_8, k_9, k_10, k_15, k_16, k_18, k_20, k_26, k_27, k_31, k_33, k_46, k_48, k_49, k_51, k_53, k_57, k_60, k_61, k_63, k_64, k_65, k_70, k_71, k_74, k_75, k_80, k_81, k_82, k_83, k_84, k_85, k_98, k_99, k_100, k_102, k_114, k_115, k_119, k_121, k_126, k_200, k_999, k_1000, k_3000, k_9999, k_65537, k_1000000, k_999999999, k_500, n_mul, n_add, n_sub, n_div]
                  rw [e5]
                  refine pX7_whyNotWear (S := S) (N := D1) hM1 ⟨n1, n2, n3, n4, n5, n6, n7⟩ hS hE1 (by omega) ?_
                  have hd4 : hdA S D1 (sg p - 65) ≤ 4 := by rw [← eh]; exact hle
                  refine pk_ne (hdA S D1 (sg p - 65)) 0 (fun w => ?_) (fun w => ?_)
                  · exact stop _ eh w _ _ ((hF.reason _).reason _) z2 rfl
                  · have nh : ¬ hasN (zou D1) (sg p - 65) := by
                      intro q
                      unfold hdA at w
                      rw [if_pos q] at w
                      split at w
                      · exact absurd w (by decide)
                      · exact absurd w (by decide)
                    rw [w]
                    rw [w] at eh
                    refine pX7_wear (S := S) (N := D1) hM1 ⟨n1, n2, n3, n4, n5, n6, n7⟩ (by omega) (fun m2 hF2 hN2 => ?_)
                    have sm := hF2.same
                    obtain ⟨o1, o2, o3, o4, o5, o6, o7⟩ := hN2
                    refine cont eh _ _ ((((hF.reason _).reason _).trans hF2.X).trans (FN.X (FN.rf.out _))) ?_ (sm.2.1.trans z2) ?_ sm.1 (by rw [ln nt])
                    · rw [ea]
                      refine ⟨aI_cg o1 (fun j hj => (if_pos hj).symm), o2, o3, o4, o5, ?_, o7⟩
                      show Mo_outNow m2 ||| _ = nI (zou D1 + 2 ^ (sg p - 65))
                      rw [o6]
                      exact (lor_1 (sg p - 65) (by omega) _ hE1.1.2.2.2.2.2.1 nh).1
                    · rw [if_neg c7]; exact sm.2.2.trans z3
                · have nd : ¬ isDrs (sg p) := by omega
                  have y1 := hE1.2.1
                  rw [if_neg nd, if_pos c7] at eh
                  rw [if_neg nd, if_neg c4] at ea
                  rw [n7]
                  refine pk_ne (zdy D1) 99 (fun w => ?_) (fun w => ?_)
                  · rw [if_pos (by omega)] at eh
                    unfold wpX7_goDays_B224
                    refine bn_f rfl ?_
                    refine pX7_note (S := S) (N := D1) (b := b) hM1 ⟨n1, n2, n3, n4, n5, n6, n7⟩ hS hE1.1 hR1.2.1.2.2.2.2.2.2 hd hb3 z3 ?_
                    refine pX7_pass (S := S) (N := D1) hM1 ⟨n1, n2, n3, n4, n5, n6, n7⟩ hS hE1.1 (fun m2 hF2 hN2 => ?_)
                    have sm := hF2.same
                    refine cont eh _ _ ((((hF.reason _).reason _).brokenAt _).trans hF2.X) ?_ (sm.2.1.trans z2) ?_ sm.1 (by rw [ln nt])
                    · rw [ea]; exact hN2
                    · rw [if_pos c7]; exact sm.2.2
                  · rw [if_neg (by omega)] at eh
                    unfold wpX7_goDays_B224
                    exact bn_t (by decide) (stop 4 eh (by decide) _ _ ((hF.reason _).reason _) z2 rfl)
              · have nd : ¬ isDrs (sg p) := by omega
                have n46 : ¬ sg p = 46 := by omega
                rw [if_neg nd, if_neg n46] at eh
                rw [if_neg nd, if_pos c6] at ea
                refine cont eh _ _ ((hF.reason _).trans (FN.X (FN.rf.snow _))) ?_ z2 ?_ rfl (by rw [ln nt])
                · rw [ea]
                  refine ⟨n1, n2, n3, n4, ?_, n6, n7⟩
                  show 1 - Mo_snowNow m1 = _
                  rw [n5]
                  exact n_sub f2
                · rw [if_neg n46]; exact z3
            · have nd : ¬ isDrs (sg p) := by omega
              have n46 : ¬ sg p = 46 := by omega
              rw [if_neg nd, if_neg n46] at eh
              rw [if_neg nd, if_pos c5] at ea
              refine cont eh _ _ ((hF.reason _).trans (FN.X (FN.rf.fog _))) ?_ z2 ?_ rfl (by rw [ln nt])
              · rw [ea]
                refine ⟨n1, n2, n3, ?_, n5, n6, n7⟩
                show 1 - Mo_fogNow m1 = _
                rw [n4]
                exact n_sub f1
              · rw [if_neg n46]; exact z3
          · have t : takes (sg p) := Or.inr (Or.inr (Or.inr c4))
            have nd : ¬ isDrs (sg p) := by omega
            have n46 : ¬ sg p = 46 := by omega
            have c5 : ¬ sg p = 102 := by omega
            have c6 : ¬ sg p = 115 := by omega
            rw [if_neg nd, if_pos c4] at eh
            rw [if_neg nd, if_neg c5, if_neg c6, if_pos c4] at ea
            obtain ⟨t1, t2, t3⟩ := s4 t
            have bn := hs (p + 1)
            have x3 := s2 c4
            have b3 := hE1.1.2.2.1 (dgA sg p)
            have e4 : nI (sg (p + 1)) - 48 = nI (dgA sg p) := by
              rw [t3]
              simp (disch := omega) only [k_0, k_1, k_2, k_3, k_4, k_5, k_6, k_7, k_8, k_9, k_10, k_15, k_16, k_18, k_20, k_26, k_27, k_31, k_33, k_46, k_48, k_49, k_51, k_53, k_57, k_60, k_61, k_63, k_64, k_65, k_70, k_71, k_74, k_75, k_80, k_81, k_82, k_83, k_84, k_85, k_98, k_99, k_100, k_102, k_114, k_115, k_119, k_121, k_126, k_200, k_999, k_1000, k_3000, k_9999, k_65537, k_1000000, k_999999999, k_500, n_mul, n_add, n_sub, n_div]
            refine nm_r (nI_1 p) ⟨vp_in_nI (by omega) (by decide), ?_⟩
            rw [aI_rd hpad (show p + 1 < 60 by omega), e4, aI_rd n3 (show dgA sg p < 4 by omega)]
            refine ⟨vp_in_nI (by omega) (by decide), ?_⟩
            have hp1 : Mo_pad (Mo_s_reason m1 0) (nI (p + 1)).toNatClampNeg - 48 = nI (dgA sg p) := by
              rw [show Mo_pad (Mo_s_reason m1 0) (nI (p + 1)).toNatClampNeg = nI (sg (p + 1)) from aI_rd hpad (by omega)]
              exact e4
            refine pk_ne (zkp D1 (dgA sg p)) 0 (fun w => ?_) (fun w => ?_)
            · rw [if_neg w] at eh
              unfold wpX7_goDays_B144
              rw [hp1]
              refine ⟨vp_in_nI (by omega) (by decide), vp_in_nI (by omega) (by decide), ?_⟩
              refine cont eh _ _ (((hF.reason _).reason _).trans (FN.X (FN.rf.keep _))) ?_ z2 ?_ rfl (by rw [lt t])
              · rw [ea]
                exact ⟨n1, n2, aI_up n3, n4, n5, n6, n7⟩
              · rw [if_neg n46]; exact z3
            · rw [if_pos w] at eh
              unfold wpX7_goDays_B144
              rw [hp1]
              exact ⟨vp_in_nI (by omega) (by decide), vp_in_nI (by omega) (by decide), stop 3 eh (by decide) _ _ (((hF.reason _).reason _).trans (FN.X (FN.rf.keep _))) z2 rfl⟩
      · rw [playA_end q] at heq
        rw [heq] at h0
        exact br_t (nI_le q (by omega)) (pX7_note hM1 hN hS hE1.1 hR1.2.1.2.2.2.2.2.2 hd hb3 z3 (h0 rfl _ (hF.brokenAt _) hN z2 rfl))
  exact ⟨62, key 61 0 0 D none _ hf (by omega) (by decide) (by decide) hE (Nat.le_refl _) (fun x hx => nomatch hx) ((hF1.X.acts _).brokenAt _) hN1 rfl rfl hP0.symm⟩

set_option maxHeartbeats 200000 in
theorem flt_neg {sg : Nat → Nat} {cnt : Nat} (hc : cnt ≤ 60) : ∀ n p, p ≤ 1000 → flt sg cnt n p = -6 ∨ ∃ k, k < 2000 ∧ flt sg cnt n p = nI k := by
  intro n
  induction n with
  | zero => intro p _; exact Or.inl rfl
  | succ n ih =>
    intro p hp
    have e : flt sg cnt (n + 1) p = if cnt ≤ p then -6 else if takes (sg p) then (if cnt ≤ p + 1 then nI cnt else if digOk (sg p) (sg (p + 1)) then flt sg cnt n (p + 2) else nI (p + 1)) else if alone (sg p) then flt sg cnt n (p + 1) else nI p := rfl
    rw [e]
    by_cases q : cnt ≤ p
    · rw [if_pos q]; exact Or.inl rfl
    · rw [if_neg q]
      by_cases q1 : takes (sg p)
      · rw [if_pos q1]
        by_cases q2 : cnt ≤ p + 1
        · rw [if_pos q2]; exact Or.inr ⟨cnt, by omega, rfl⟩
        · rw [if_neg q2]
          by_cases q3 : digOk (sg p) (sg (p + 1))
          · rw [if_pos q3]; exact ih (p + 2) (by omega)
          · rw [if_neg q3]; exact Or.inr ⟨p + 1, by omega, rfl⟩
      · rw [if_neg q1]
        by_cases q2 : alone (sg p)
        · rw [if_pos q2]; exact ih (p + 1) (by omega)
        · rw [if_neg q2]; exact Or.inr ⟨p, by omega, rfl⟩
set_option maxHeartbeats 200000 in
theorem flt_lt {sg : Nat → Nat} {cnt : Nat} (hc : cnt ≤ 60) : (flt sg cnt 61 0 = -6 → flt sg cnt 61 0 < 0) ∧ (¬ flt sg cnt 61 0 = -6 → ¬ flt sg cnt 61 0 < 0 ∧ 0 ≤ flt sg cnt 61 0) := by
  refine ⟨fun q => by rw [q]; decide, fun q => ?_⟩
  rcases flt_neg (sg := sg) hc 61 0 (by decide) with w | ⟨k, hk, w⟩
  · exact absurd w q
  · rw [w]
    exact ⟨nI_pos (by omega), nI_le (Nat.zero_le k) (by omega)⟩
set_option maxHeartbeats 200000 in
theorem pX7_judge {m : Mo} {S : Sta} {D : Day} {sg : Nat → Nat} {cnt : Nat} {I J : Nat → Int32} {p1 : Int32} {Q : Int32 → Mo → Prop} (hR : RMo m S D sg cnt I J) (hS : WS S) (hE : WE D) (hs : ∀ j, 0 ≤ sg j ∧ sg j ≤ 126) (hc : cnt ≤ 60) (h : ∀ m', FX m m' → Q (judgeA S D sg cnt p1) m') : wpX7_judge m p1 Q := by
  unfold judgeA at h
  unfold wpX7_judge
  refine ck2X7_in (fun c1 => ?_) (fun c1 => ?_)
  · rw [if_pos c1] at h
    refine pX7_faultOf hR hs hc ?_
    by_cases q : flt sg cnt 61 0 = -6
    · rw [if_pos q] at h
      have ok := playA_ok hS hc 61 0 0 D none q (by omega) hE (Nat.le_refl _) (fun x hx => nomatch hx)
      refine br_t ((flt_lt hc).1 q) (pX7_goDays hR hS hE hs hc q (fun w m' hF _ _ _ => ?_) (fun w m' hF z1 => ?_))
      · rw [if_pos w] at h
        exact br_t (by decide) (h m' hF)
      · rw [if_neg w] at h
        rw [z1]
        have a1 : (plA S D sg cnt).2.1 ≤ 0 + 61 := ok.2.2.1
        refine br_f (nI_pos (by omega)) (bn_c (fun u => ?_) (fun u => ?_))
        · rw [if_neg u] at h; exact h m' hF
        · rw [if_pos u] at h; exact h m' hF
    · rw [if_neg q] at h
      exact br_f ((flt_lt hc).2 q).1 (h m FX.rf)
  · rw [if_neg c1] at h; exact h m FX.rf
set_option maxHeartbeats 200000 in
theorem pX7_barOfDays {m : Mo} {S : Sta} {D : Day} {sg : Nat → Nat} {cnt : Nat} {I J : Nat → Int32} {Q : Int32 → Mo → Prop} (hR : RMo m S D sg cnt I J) (hS : WS S) (hE : WE D) (hs : ∀ j, 0 ≤ sg j ∧ sg j ≤ 126) (hc : cnt ≤ 60) (h0 : ¬ canA S D sg cnt → ∀ m', FX m m' → Q (-5) m') (h1 : canA S D sg cnt → ∀ m', FX m m' → RN m' (plA S D sg cnt).2.2.1 → Mo_acts m' = nI (plA S D sg cnt).2.1 → Mo_brokenAt m' = oI (plA S D sg cnt).2.2.2 → Q 0 m') : wpX7_barOfDays m Q := by
  unfold wpX7_barOfDays
  refine pX7_faultOf hR hs hc ?_
  by_cases q : flt sg cnt 61 0 = -6
  · have ok := playA_ok hS hc 61 0 0 D none q (by omega) hE (Nat.le_refl _) (fun x hx => nomatch hx)
    have a1 : (plA S D sg cnt).2.1 ≤ 0 + 61 := ok.2.2.1
    refine br_f (by rw [q]; decide) (pX7_goDays hR hS hE hs hc q (fun w m' hF z1 z2 z3 => ?_) (fun w m' hF z1 => ?_))
    · exact br_t (by decide) (h1 ⟨q, w⟩ m' hF z1 z2 z3)
    · exact br_f (nI_pos (by omega)) (h0 (fun u => w u.2) m' hF)
  · exact br_t ((flt_lt hc).2 q).2 (h0 (fun u => q u.1) m FX.rf)
set_option maxHeartbeats 200000 in
theorem pX7_broken {m : Mo} {S : Sta} {D : Day} {sg : Nat → Nat} {cnt : Nat} {I J : Nat → Int32} {Q : Int32 → Mo → Prop} (hR : RMo m S D sg cnt I J) (hS : WS S) (hE : WE D) (hs : ∀ j, 0 ≤ sg j ∧ sg j ≤ 126) (hc : cnt ≤ 60) (h : ∀ m', FX m m' → Q (brokenA S D sg cnt) m') : wpX7_broken m Q := by
  unfold brokenA at h
  unfold wpX7_broken
  refine pX7_barOfDays hR hS hE hs hc (fun q m' hF => ?_) (fun q m' hF z1 z2 z3 => ?_)
  · rw [if_neg q] at h
    exact br_f (by decide) (h m' hF)
  · rw [if_pos q] at h
    rw [z3]
    exact br_t (by decide) (h m' hF)
set_option maxHeartbeats 200000 in
theorem pX7_behind {m : Mo} {S : Sta} {D : Day} {sg : Nat → Nat} {cnt : Nat} {I J : Nat → Int32} {p1 : Int32} {Q : Int32 → Mo → Prop} (hR : RMo m S D sg cnt I J) (hS : WS S) (hE : WE D) (hs : ∀ j, 0 ≤ sg j ∧ sg j ≤ 126) (hc : cnt ≤ 60) (h : ∀ m', FX m m' → Q (behindA S D sg cnt p1) m') : wpX7_behind m p1 Q := by
  unfold behindA at h
  unfold wpX7_behind
  refine ck2X7_in (fun c1 => ?_) (fun c1 => ?_)
  · rw [if_pos c1] at h
    refine pX7_barOfDays hR hS hE hs hc (fun q m' hF => ?_) (fun q m' hF z1 z2 z3 => ?_)
    · rw [if_neg q] at h
      exact br_f (by decide) (h m' hF)
    · rw [if_pos q] at h
      have ok := playA_ok hS hc 61 0 0 D none q.1 (by omega) hE (Nat.le_refl _) (fun x hx => nomatch hx)
      refine br_t (by decide) (bn_c (fun u => ?_) (fun u => ?_))
      · rw [if_neg u] at h
        obtain ⟨c, hc3, rfl⟩ := inR_nI (n := 3) (by decide) c1
        have c3 : c ≠ 3 := fun w => u (by rw [w]; rfl)
        rw [nI_clamp (show c < 2 ^ 31 by omega)] at h
        exact pX7_see (hF.R hR).1 z1 hS ok.1.1 (by omega) (h m' hF)
      · rw [if_pos u] at h
        have e3 : Mo_dayNow m' = _ := z1.2.2.2.2.2.2
        rw [e3]
        exact h m' hF
  · rw [if_neg c1] at h; exact h m FX.rf
set_option maxHeartbeats 200000 in
theorem pX7_fault {m : Mo} {S : Sta} {D : Day} {sg : Nat → Nat} {cnt : Nat} {I J : Nat → Int32} {Q : Int32 → Mo → Prop} (hR : RMo m S D sg cnt I J) (hs : ∀ j, 0 ≤ sg j ∧ sg j ≤ 126) (hc : cnt ≤ 60) (h : Q (flt sg cnt 61 0) m) : wpX7_fault m Q := pX7_faultOf hR hs hc h
def KD (m : Mo) (S : Sta) (N : Day) (sg : Nat → Nat) (I J : Nat → Int32) (A : Int32) : Prop := RMS m S ∧ RN m N ∧ (Mo_sights m = nI (zns S) ∧ (∀ i, i < 8 → Mo_sight m (2 * i) = nI (zsd S i) ∧ Mo_sight m (2 * i + 1) = nI (zsa S i))) ∧ aI 60 (Mo_pad m) sg ∧ Mo_image m = I ∧ Mo_isKept m = J ∧ Mo_acts m = A
set_option maxHeartbeats 200000 in
theorem aI_st {a : Nat → Int32} {f : Nat → Nat} {i v : Nat} (h : aI i a f) (e : v = f i) (hi : i < 2147483647) : aI (i + 1) (upd a (nI i).toNatClampNeg (nI v)) f := by
  intro j hj
  rw [nI_clamp (show i < 2 ^ 31 by omega)]
  unfold upd
  split
  · rename_i q; rw [q, e]
  · exact h j (by omega)
set_option maxHeartbeats 200000 in
theorem pX7_done {m : Mo} {S : Sta} {D : Day} {sg : Nat → Nat} {cnt : Nat} {I J : Nat → Int32} {Q : Int32 → Mo → Prop} (hR : RMo m S D sg cnt I J) (hS : WS S) (hE : WE D) (hs : ∀ j, 0 ≤ sg j ∧ sg j ≤ 126) (hc : cnt ≤ 60) (h : ∀ m', RMo m' S (doneA S D sg cnt).2.1 sg (doneA S D sg cnt).2.2 I J → Q (doneA S D sg cnt).1 m') : wpX7_done m Q := by
  unfold doneA at h
  unfold wpX7_done
  refine pX7_barOfDays hR hS hE hs hc (fun q m' hF => ?_) (fun q m1 hF z1 z2 z3 => ?_)
  · rw [if_neg q] at h
    exact br_f (by decide) (h m' (hF.R hR))
  · rw [if_pos q] at h
    refine br_t (by decide) ?_
    generalize (plA S D sg cnt).2.2.1 = N at h z1
    generalize nI (plA S D sg cnt).2.1 = A at h z2
    have hR1 := hF.R hR
    have k3 : ∀ i, i ≤ 4 → ∃ n, ∀ m', KD m' S N sg I J A → aI 3 (Mo_shownToday m') (zsh N) → aI 27 (Mo_past m') (ztn N) → aI i (Mo_keeps m') (zkp N) → wpX7_done_L63 Q n m' (nI i) := by
      refine up_loop 4 (fun n => ?_) (fun n i hi ih => ?_)
      · intro m' hK a1 a2 a3
        show wpX7_done_H63 Q _ _ _
        unfold wpX7_done_H63
        obtain ⟨k1, k2, ⟨k3, k4⟩, k5, k6, k7, k8⟩ := hK
        refine br_t (nI_le (by decide) (by decide)) ?_
        rw [k8]
        exact h _ ⟨k1, ⟨a1, a2, a3, k2.2.2.2.1, k2.2.2.2.2.1, k2.2.2.2.2.2.1, k2.2.2.2.2.2.2⟩, k3, k4, rfl, k5, k6, k7⟩
      · intro m' hK a1 a2 a3
        show wpX7_done_H63 Q _ _ _
        unfold wpX7_done_H63
        rw [aI_rd hK.2.1.2.2.1 hi]
        exact br_f (nI_ge hi (by decide)) ⟨vp_in_nI hi (by decide), vp_in_nI hi (by decide), nm_r (nI_1 i) (ih _ hK a1 a2 (aI_st a3 rfl (by omega)))⟩
    have k2 : ∀ i, i ≤ 27 → ∃ n, ∀ m', KD m' S N sg I J A → aI 3 (Mo_shownToday m') (zsh N) → aI i (Mo_past m') (ztn N) → wpX7_done_L37 Q n m' (nI i) := by
      refine up_loop 27 (fun n => ?_) (fun n i hi ih => ?_)
      · intro m' hK a1 a2
        show wpX7_done_H37 Q _ _ _
        unfold wpX7_done_H37
        obtain ⟨n3, hn3⟩ := k3 0 (by decide)
        exact br_t (nI_le (by decide) (by decide)) ⟨n3, hn3 m' hK a1 a2 (fun j hj => absurd hj (Nat.not_lt_zero j))⟩
      · intro m' hK a1 a2
        show wpX7_done_H37 Q _ _ _
        unfold wpX7_done_H37
        rw [aI_rd hK.2.1.2.1 hi]
        exact br_f (nI_ge hi (by decide)) ⟨vp_in_nI hi (by decide), vp_in_nI hi (by decide), nm_r (nI_1 i) (ih _ hK a1 (aI_st a2 rfl (by omega)))⟩
    have k1 : ∀ i, i ≤ 3 → ∃ n, ∀ m', KD m' S N sg I J A → aI i (Mo_shownToday m') (zsh N) → wpX7_done_L12 Q n m' (nI i) := by
      refine up_loop 3 (fun n => ?_) (fun n i hi ih => ?_)
      · intro m' hK a1
        show wpX7_done_H12 Q _ _ _
        unfold wpX7_done_H12
        obtain ⟨n3, hn3⟩ := k2 0 (by decide)
        exact br_t (nI_le (by decide) (by decide)) ⟨n3, hn3 m' hK a1 (fun j hj => absurd hj (Nat.not_lt_zero j))⟩
      · intro m' hK a1
        show wpX7_done_H12 Q _ _ _
        unfold wpX7_done_H12
        rw [aI_rd hK.2.1.1 hi]
        exact br_f (nI_ge hi (by decide)) ⟨vp_in_nI hi (by decide), vp_in_nI hi (by decide), nm_r (nI_1 i) (ih _ hK (aI_st a1 rfl (by omega)))⟩
    obtain ⟨n, hn⟩ := k1 0 (by decide)
    obtain ⟨r1, r2, r3, r4, r5, r6, r7, r8⟩ := hR1
    exact ⟨n, hn m1 ⟨r1, z1, ⟨r3, r4⟩, r6, r7, r8, z2⟩ (fun j hj => absurd hj (Nat.not_lt_zero j))⟩
