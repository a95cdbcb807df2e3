set_option maxHeartbeats 200000 in
theorem pX6_capped {n : Nat} {Q : Int32 → Prop} (hn : n < 2147483648) (h : Q (nI (cap n))) : wpX6_capped (nI n) Q := by
  unfold wpX6_capped
  refine pk_le n 999 (fun q => ?_) (fun q => ?_)
  · have e : cap n = n := by unfold cap; exact if_pos q
    rw [e] at h; exact h
  · have e : cap n = 999 := by unfold cap; exact if_neg (by omega)
    rw [e] at h; exact h
set_option maxHeartbeats 200000 in
theorem pX3_seenAgo {g : Gr} {S : Sta} {D : Day} {c k : Nat} {Q : Int32 → Gr → Prop} (hR : RG g S D) (hc : c < 3) (h1 : 1 ≤ k) (h9 : k ≤ 9) (h : Q (nI (ztn D (9 * c + (k - 1)))) g) : wpX3_seenAgo g (nI c) (nI k) Q := by
  have e : nI c * 9 + nI k - 1 = nI (9 * c + (k - 1)) := by
    simp (disch := omega) only [k_0, k_1, k_2, k_3, k_4, k_5, k_6, k_7, k_8, k_9, k_10, k_15, k_16, k_18, k_20, k_26, k_27, k_31, k_33, k_46, k_48, k_49, k_51, k_53, k_57, k_60, k_61, k_63, k_64, k_65, k_70, k_71, k_74, k_75, k_80, k_81, k_82, k_83, k_84, k_85, k_98, k_99, k_100, k_102, k_114, k_115, k_119, k_121, k_126, k_200, k_999, k_1000, k_3000, k_9999, k_65537, k_1000000, k_999999999, k_500, n_mul, n_add, n_sub, n_div]
    first | rfl | (congr 1; omega)
  unfold wpX3_seenAgo
  rw [e]
  refine br_f (nI_nlt (a := k) (b := 1) h1 (by omega)) (br_f (nI_nlt (a := 9) (b := k) h9 (by decide)) ⟨vp_in_nI (by omega) (by decide), ?_⟩)
  obtain ⟨-, -, -, -, -, -, -, hp, -⟩ := hR
  rw [aI_rd hp (by omega)]
  exact h
set_option maxHeartbeats 200000 in
theorem pX3_seenToday {g : Gr} {S : Sta} {D : Day} {c mo : Nat} {Q : Int32 → Gr → Prop} (hR : RG g S D) (hS : WS S) (hD : WD D) (hc : c < 3) (hm : mo ≤ 99999) (h : Q (nI (seeA (zoff S) D c mo)) g) : wpX3_seenToday g (nI c) (nI mo) Q := by
  have hR0 := hR
  obtain ⟨hoff, -, -, -, -, -, hsh, hp, hkp, hfg, hsn, -, -⟩ := hR
  have hs1 := hD.1 c
  have hfin : ∀ s : Nat, s < 1000000 → cap s = seeA (zoff S) D c mo → wpX3_seenToday_B64 Q g (nI s) := by
    intro s hs e
    unfold wpX3_seenToday_B64
    refine pX6_capped (by omega) ?_
    rw [e]; exact h
  unfold wpX3_seenToday
  refine ⟨vp_in_nI hc (by decide), ?_⟩
  rw [aI_rd hsh hc, hfg, hsn]
  refine nm_r (n_add _ _) ?_
  refine pk_ne (zfg D) 0 (fun q => ?_) (fun q => ?_) (ha := by have := hD.2.2.2.1; omega)
  · refine hfin _ (by omega) ?_
    unfold seeA
    rw [if_neg (by omega), Nat.add_zero]
  refine pk_ne (zsn D) 0 (fun q2 => ?_) (fun q2 => ?_) (ha := by have := hD.2.2.2.2.1; omega)
  · refine hfin _ (by omega) ?_
    unfold seeA
    rw [if_neg (by omega), Nat.add_zero]
  have hw := wsm_le (off := zoff S) (kp := zkp D) (p := fun j => ztn D (9 * c + j)) hD.2.2.1 (fun j => hD.2.1 _)
  have key : ∀ i, i ≤ 4 → ∃ n, wpX3_seenToday_L26 Q n g (nI c) (nI (zsh D c + mo + wsm (zoff S) (zkp D) (fun j => ztn D (9 * c + j)) i)) (nI i) := by
    refine up_loop 4 (fun n => ?_) (fun n i hi ih => ?_)
    · show wpX3_seenToday_H26 Q _ _ _ _ _
      unfold wpX3_seenToday_H26
      refine br_t (nI_le (by decide) (by decide)) ?_
      have h4 := hw 4
      refine hfin _ (by omega) ?_
      unfold seeA
      rw [if_pos ⟨q, q2⟩]
    · show wpX3_seenToday_H26 Q _ _ _ _ _
      unfold wpX3_seenToday_H26
      refine br_f (nI_ge hi (by decide)) ⟨vp_in_nI hi (by decide), ?_⟩
      rw [aI_rd hoff hi]
      refine pX3_seenAgo hR0 hc (hS.1 i).1 (hS.1 i).2 ⟨vp_in_nI hi (by decide), ?_⟩
      rw [aI_rd hkp hi]
      have h1 : ztn D (9 * c + (zoff S i - 1)) * zkp D i ≤ 999 * 9 := Nat.mul_le_mul (hD.2.1 _) (hD.2.2.1 _)
      refine nm_r (e' := nI (zsh D c + mo + wsm (zoff S) (zkp D) (fun j => ztn D (9 * c + j)) (i + 1))) ?_ (nm_r (nI_1 i) ih)
      simp (disch := omega) only [k_0, k_1, k_2, k_3, k_4, k_5, k_6, k_7, k_8, k_9, k_10, k_15, k_16, k_18, k_20, k_26, k_27, k_31, k_33, k_46, k_48, k_49, k_51, k_53, k_57, k_60, k_61, k_63, k_64, k_65, k_70, k_71, k_74, k_75, k_80, k_81, k_82, k_83, k_84, k_85, k_98, k_99, k_100, k_102, k_114, k_115, k_119, k_121, k_126, k_200, k_999, k_1000, k_3000, k_9999, k_65537, k_1000000, k_999999999, k_500, n_mul, n_add, n_sub, n_div]
      rw [Nat.add_assoc]
      rfl
  exact key 0 (by decide)
set_option maxHeartbeats 200000 in
theorem pX3_worth {g : Gr} {S : Sta} {D : Day} {k c : Nat} {Q : Int32 → Gr → Prop} (hR : RG g S D) (hk : k < 6) (hc : c < 3) (h : Q (nI (zds S (3 * k + c))) g) : wpX3_worth g (nI k) (nI c) Q := by
  have e : nI k * 3 + nI c = nI (3 * k + c) := by
    simp (disch := omega) only [k_0, k_1, k_2, k_3, k_4, k_5, k_6, k_7, k_8, k_9, k_10, k_15, k_16, k_18, k_20, k_26, k_27, k_31, k_33, k_46, k_48, k_49, k_51, k_53, k_57, k_60, k_61, k_63, k_64, k_65, k_70, k_71, k_74, k_75, k_80, k_81, k_82, k_83, k_84, k_85, k_98, k_99, k_100, k_102, k_114, k_115, k_119, k_121, k_126, k_200, k_999, k_1000, k_3000, k_9999, k_65537, k_1000000, k_999999999, k_500, n_mul, n_add, n_sub, n_div]
    first | rfl | (congr 1; omega)
  unfold wpX3_worth
  rw [e]
  refine ⟨vp_in_nI (by omega) (by decide), ?_⟩
  rw [aI_rd hR.2.1 (by omega)]
  exact h
set_option maxHeartbeats 200000 in
theorem pX3_isOver {g : Gr} {S : Sta} {D : Day} {Q : Int32 → Gr → Prop} (hR : RG g S D) (hS : WS S) (hD : WD D) (h1 : overA (zoff S) (zlim S) D → Q 1 g) (h0 : ¬ overA (zoff S) (zlim S) D → Q 0 g) : wpX3_isOver g Q := by
  have hl : Gr_most g = nI (zlim S) := hR.2.2.1
  have hl9 := hS.2.2.1
  have s0 := seeA_le (zoff S) D 0 0
  have s1 := seeA_le (zoff S) D 1 0
  have s2 := seeA_le (zoff S) D 2 0
  unfold wpX3_isOver
  refine pX3_seenToday (c := 0) (mo := 0) hR hS hD (by decide) (by decide) ?_
  rw [hl]
  refine pk_lt (zlim S) (seeA (zoff S) D 0 0) (fun q => h1 (Or.inl q)) (fun q0 => ?_)
  refine pX3_seenToday (c := 1) (mo := 0) hR hS hD (by decide) (by decide) ?_
  rw [hl]
  refine pk_lt (zlim S) (seeA (zoff S) D 1 0) (fun q => h1 (Or.inr (Or.inl q))) (fun q1 => ?_)
  refine pX3_seenToday (c := 2) (mo := 0) hR hS hD (by decide) (by decide) ?_
  rw [hl]
  refine pk_le (seeA (zoff S) D 2 0) (zlim S) (fun q => h0 ?_) (fun q => h1 (Or.inr (Or.inr q)))
  unfold overA
  omega
set_option maxHeartbeats 200000 in
theorem if_max {a b : Nat} (ha : a < 2147483648) (hb : b < 2147483648) : (if nI a < nI b then nI b else nI a) = nI (max a b) := by
  by_cases h : a < b
  · rw [if_pos ((nI_ltI ha hb).mpr h)]; first | rfl | (congr 1; omega)
  · rw [if_neg (fun q => h ((nI_ltI ha hb).mp q))]; first | rfl | (congr 1; omega)
set_option maxHeartbeats 200000 in
theorem pX3_mostSeen {g : Gr} {S : Sta} {D : Day} {Q : Int32 → Gr → Prop} (hR : RG g S D) (hS : WS S) (hD : WD D) (h : Q (nI (max (seeA (zoff S) D 0 0) (max (seeA (zoff S) D 1 0) (seeA (zoff S) D 2 0)))) g) : wpX3_mostSeen g Q := by
  have s0 := seeA_le (zoff S) D 0 0
  have s1 := seeA_le (zoff S) D 1 0
  have s2 := seeA_le (zoff S) D 2 0
  unfold wpX3_mostSeen
  refine pX3_seenToday (c := 0) (mo := 0) hR hS hD (by decide) (by decide) ?_
  refine pX3_seenToday (c := 1) (mo := 0) hR hS hD (by decide) (by decide) ?_
  refine pX3_seenToday (c := 2) (mo := 0) hR hS hD (by decide) (by decide) ?_
  rw [if_max (by omega) (by omega), if_max (by omega) (by omega)]
  exact h
set_option maxHeartbeats 200000 in
/-- the end of a day, colour by colour: what is done behind i colours -/
theorem pX3_endDay {g : Gr} {S : Sta} {D : Day} {Q : Gr → Prop} (hR : RG g S D) (hS : WS S) (hD : WD D) (h : ∀ g', RG g' S (passA (zoff S) D) → Q g') : wpX3_endDay g Q := by
  -- past and today behind i colours
  let tnI : Nat → Nat → Nat := fun i k => if k < 9 * i then ztn (passA (zoff S) D) k else ztn D k
  let shI : Nat → Nat → Nat := fun i k => if k < i then 0 else zsh D k
  let DI : Nat → Day := fun i => (shI i, tnI i, zkp D, zfg D, zsn D, zou D, zdy D)
  have hDI : ∀ i, WD (DI i) := by
    intro i
    obtain ⟨h1, h2, h3, h4, h5, h6, h7⟩ := hD
    refine ⟨fun j => ?_, fun j => ?_, h3, h4, h5, h6, h7⟩
    · show (if j < i then 0 else zsh D j) ≤ 99999
      split
      · exact Nat.zero_le _
      · exact h1 j
    · show (if j < 9 * i then (if j % 9 = 0 then seeA (zoff S) D (j / 9) 0 else if zsn D = 1 then 0 else ztn D (j - 1)) else ztn D j) ≤ 999
      split
      · split
        · exact seeA_le _ _ _ _
        · split
          · exact Nat.zero_le _
          · exact h2 _
      · exact h2 _
  have hsee : ∀ i, i < 3 → seeA (zoff S) (DI i) i 0 = seeA (zoff S) D i 0 := by
    intro i hi
    unfold seeA
    have e1 : zsh (DI i) i = zsh D i := if_neg (by omega)
    have e2 : (fun j => ztn (DI i) (9 * i + j)) = (fun j => ztn D (9 * i + j)) := by
      funext j
      exact if_neg (by omega)
    rw [e1, e2]
  unfold wpX3_endDay
  have key : ∀ i, i ≤ 3 → ∃ n, ∀ g : Gr, RG g S (DI i) → wpX3_endDay_L2 Q n g (nI i) := by
    refine up_loop 3 (fun n => ?_) (fun n i hi ih => ?_)
    · intro g hR
      show wpX3_endDay_H2 Q _ _ _
      unfold wpX3_endDay_H2
      refine br_t (nI_le (by decide) (by decide)) ?_
      obtain ⟨r1, r2, r3, r4, r5, r6, r7, r8, r9, r10, r11, r12, r13⟩ := hR
      refine h _ ⟨r1, r2, r3, r4, r5, r6, aI_cg r7 (fun j hj => if_pos hj), aI_cg r8 (fun j hj => if_pos (by omega)), r9, rfl, rfl, rfl, ?_⟩
      show Gr_day g + 1 = _
      rw [r13]; exact nI_1 _
    · intro g hR
      show wpX3_endDay_H2 Q _ _ _
      unfold wpX3_endDay_H2
      refine br_f (nI_ge hi (by decide)) ?_
      refine pX3_seenToday (mo := 0) hR hS (hDI i) hi (by decide) ?_
      rw [hsee i hi]
      have e9 : nI i * 9 = nI (9 * i) := by
        simp (disch := omega) only [k_0, k_1, k_2, k_3, k_4, k_5, k_6, k_7, k_8, k_9, k_10, k_15, k_16, k_18, k_20, k_26, k_27, k_31, k_33, k_46, k_48, k_49, k_51, k_53, k_57, k_60, k_61, k_63, k_64, k_65, k_70, k_71, k_74, k_75, k_80, k_81, k_82, k_83, k_84, k_85, k_98, k_99, k_100, k_102, k_114, k_115, k_119, k_121, k_126, k_200, k_999, k_1000, k_3000, k_9999, k_65537, k_1000000, k_999999999, k_500, n_mul, n_add, n_sub, n_div]
        first | rfl | (congr 1; omega)
      refine nm_r e9 ?_
      -- inner: from ago = 8 down to 0
      let tn2 : Nat → Nat → Nat := fun a k => if 9 * i + a < k ∧ k < 9 * i + 9 then ztn (passA (zoff S) D) k else tnI i k
      have inner : ∀ a, a ≤ 8 → ∀ g : Gr, RG g S (shI i, tn2 a, zkp D, zfg D, zsn D, zou D, zdy D) → wpX3_endDay_L23 Q (wpX3_endDay_L2 Q n) (a + 1) g (nI i) (nI (seeA (zoff S) D i 0)) (nI (9 * i)) (nI a) := by
        intro a
        induction a with
        | zero =>
          intro _ g hR
          show wpX3_endDay_H23 Q _ _ _ _ _ _ _
          unfold wpX3_endDay_H23
          refine br_t (by decide) ⟨vp_in_nI (by omega) (by decide), vp_in_nI hi (by decide), nm_r (nI_1 i) ?_⟩
          refine ih _ ?_
          obtain ⟨r1, r2, r3, r4, r5, r6, r7, r8, r9, r10, r11, r12, r13⟩ := hR
          refine ⟨r1, r2, r3, r4, r5, r6, aI_cg (aI_up (v := 0) r7) (fun j hj => ?_), aI_cg (aI_up r8) (fun j hj => ?_), r9, r10, r11, r12, r13⟩
          · show (if j = i then 0 else if j < i then 0 else zsh D j) = (if j < i + 1 then 0 else zsh D j)
            by_cases q : j = i
            · rw [if_pos q, if_pos (by omega)]
            · rw [if_neg q]
              by_cases q2 : j < i
              · rw [if_pos q2, if_pos (by omega)]
              · rw [if_neg q2, if_neg (by omega)]
          · show (if j = 9 * i then seeA (zoff S) D i 0 else if 9 * i + 0 < j ∧ j < 9 * i + 9 then ztn (passA (zoff S) D) j else if j < 9 * i then ztn (passA (zoff S) D) j else ztn D j) = (if j < 9 * (i + 1) then ztn (passA (zoff S) D) j else ztn D j)
            by_cases q : j = 9 * i
            · rw [if_pos q, if_pos (by omega)]
              show _ = (if j % 9 = 0 then seeA (zoff S) D (j / 9) 0 else _)
              rw [if_pos (by omega)]
              first | rfl | (congr 1; omega)
            · rw [if_neg q]
              by_cases q2 : 9 * i + 0 < j ∧ j < 9 * i + 9
              · rw [if_pos q2, if_pos (by omega)]
              · rw [if_neg q2]
                by_cases q3 : j < 9 * i
                · rw [if_pos q3, if_pos (by omega)]
                · rw [if_neg q3, if_neg (by omega)]
        | succ a iha =>
          intro ha g hR
          show wpX3_endDay_H23 Q _ _ _ _ _ _ _
          unfold wpX3_endDay_H23
          have hR0 := hR
          obtain ⟨r1, r2, r3, r4, r5, r6, r7, r8, r9, r10, r11, r12, r13⟩ := hR
          have e1 : nI (9 * i) + nI (a + 1) = nI (9 * i + a + 1) := by rw [n_add]; rfl
          have e2 : nI (9 * i) + nI (a + 1) - 1 = nI (9 * i + a) := by
            simp (disch := omega) only [k_0, k_1, k_2, k_3, k_4, k_5, k_6, k_7, k_8, k_9, k_10, k_15, k_16, k_18, k_20, k_26, k_27, k_31, k_33, k_46, k_48, k_49, k_51, k_53, k_57, k_60, k_61, k_63, k_64, k_65, k_70, k_71, k_74, k_75, k_80, k_81, k_82, k_83, k_84, k_85, k_98, k_99, k_100, k_102, k_114, k_115, k_119, k_121, k_126, k_200, k_999, k_1000, k_3000, k_9999, k_65537, k_1000000, k_999999999, k_500, n_mul, n_add, n_sub, n_div]
            first | rfl | (congr 1; omega)
          have go : ∀ v, v = ztn (passA (zoff S) D) (9 * i + a + 1) → wpX3_endDay_B58 Q (wpX3_endDay_L2 Q n) (wpX3_endDay_L23 Q (wpX3_endDay_L2 Q n) (a + 1)) g (nI i) (nI (seeA (zoff S) D i 0)) (nI (9 * i)) (nI (a + 1)) (nI (9 * i + a + 1)) (nI v) := by
            intro v hv
            unfold wpX3_endDay_B58
            refine ⟨vp_in_nI (by omega) (by decide), nm_r (pk_m1 a) ?_⟩
            refine iha (by omega) _ ⟨r1, r2, r3, r4, r5, r6, r7, aI_cg (aI_up r8) (fun j hj => ?_), r9, r10, r11, r12, r13⟩
            show (if j = 9 * i + a + 1 then v else if 9 * i + (a + 1) < j ∧ j < 9 * i + 9 then ztn (passA (zoff S) D) j else tnI i j) = (if 9 * i + a < j ∧ j < 9 * i + 9 then ztn (passA (zoff S) D) j else tnI i j)
            by_cases q : j = 9 * i + a + 1
            · rw [if_pos q, if_pos (by omega), hv, q]
            · rw [if_neg q]
              by_cases q2 : 9 * i + (a + 1) < j ∧ j < 9 * i + 9
              · rw [if_pos q2, if_pos (by omega)]
              · rw [if_neg q2, if_neg (by omega)]
          have hp9 : ztn (passA (zoff S) D) (9 * i + a + 1) = if zsn D = 1 then 0 else ztn D (9 * i + a) := by
            show (if (9 * i + a + 1) % 9 = 0 then seeA (zoff S) D ((9 * i + a + 1) / 9) 0 else if zsn D = 1 then 0 else ztn D (9 * i + a + 1 - 1)) = _
            rw [if_neg (by omega)]
            rfl
          rw [r11, e2]
          refine br_f (nI_nle (by omega) (by omega)) ?_
          rw [e1]
          refine pk_eq (zsn D) 0 (fun q => ⟨vp_in_nI (by omega) (by decide), ?_⟩) (fun q => ?_) (ha := by have := hD.2.2.2.2.1; omega)
          · rw [aI_rd r8 (by omega)]
            refine go _ ?_
            rw [hp9, if_neg (by omega)]
            show (if 9 * i + (a + 1) < 9 * i + a ∧ 9 * i + a < 9 * i + 9 then _ else if 9 * i + a < 9 * i then _ else ztn D (9 * i + a)) = _
            rw [if_neg (by omega), if_neg (by omega)]
          · refine go 0 ?_
            rw [hp9, if_pos (by have := hD.2.2.2.2.1; omega)]
      refine ⟨9, inner 8 (by decide) g ?_⟩
      obtain ⟨r1, r2, r3, r4, r5, r6, r7, r8, r9, r10, r11, r12, r13⟩ := hR
      refine ⟨r1, r2, r3, r4, r5, r6, r7, aI_cg r8 (fun j hj => ?_), r9, r10, r11, r12, r13⟩
      show tnI i j = (if 9 * i + 8 < j ∧ j < 9 * i + 9 then _ else tnI i j)
      rw [if_neg (by omega)]
  obtain ⟨n, hn⟩ := key 0 (by decide)
  refine ⟨n, hn g ?_⟩
  obtain ⟨r1, r2, r3, r4, r5, r6, r7, r8, r9, r10, r11, r12, r13⟩ := hR
  refine ⟨r1, r2, r3, r4, r5, r6, aI_cg r7 (fun j hj => ?_), aI_cg r8 (fun j hj => ?_), r9, r10, r11, r12, r13⟩
  · show _ = (if j < 0 then 0 else zsh D j)
    rw [if_neg (by omega)]
  · show _ = (if j < 9 * 0 then ztn (passA (zoff S) D) j else ztn D j)
    rw [if_neg (by omega)]
set_option maxHeartbeats 200000 in
theorem pX3_become {g f : Gr} {S : Sta} {D : Day} {Q : Gr → Gr → Prop} (hR : RG f S D) (hD : WD D) (h : ∀ g', RG g' S D → Q g' f) : wpX3_become g f Q := by
  obtain ⟨r1, r2, r3, r4, r5, r6, r7, r8, r9, r10, r11, r12, r13⟩ := hR
  have z : ∀ n, n ≤ 1 → zbz (nI n) := by
    intro n hn
    rcases (show n = 0 ∨ n = 1 by omega) with rfl | rfl
    · exact Or.inl rfl
    · exact Or.inr rfl
  unfold wpX3_become
  refine ⟨by rw [r10]; exact z _ hD.2.2.2.1, by rw [r11]; exact z _ hD.2.2.2.2.1, h _ ?_⟩
  exact ⟨aI_cp r1, aI_cp r2, r3, r4, aI_cp r5, aI_cp r6, aI_cp r7, aI_cp r8, aI_cp r9, r10, r11, r12, r13⟩
