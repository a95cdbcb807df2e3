/-! the course of one colour -/
def hist (off kp : Nat → Nat) (fg : Nat → Bool) (h0 : Nat → Nat) : Nat → Nat → Nat
  | 0 => h0
  | d + 1 => fun k => if k = 0 then (if fg d then 0 else cap (wsm off kp (hist off kp fg h0 d) 4)) else hist off kp fg h0 d (k - 1)
set_option maxHeartbeats 200000 in
theorem hist_le {off kp : Nat → Nat} {fg : Nat → Bool} {h0 : Nat → Nat} (h : ∀ k, h0 k ≤ 999) : ∀ d k, hist off kp fg h0 d k ≤ 999
  | 0, k => h k
  | d + 1, k => by
    show (if k = 0 then (if fg d then 0 else cap (wsm off kp (hist off kp fg h0 d) 4)) else hist off kp fg h0 d (k - 1)) ≤ 999
    split
    · split
      · exact Nat.zero_le _
      · exact cap_le _
    · exact hist_le h d _
set_option maxHeartbeats 200000 in
theorem wsm_cg {off kp p q : Nat → Nat} (ho : ∀ j, 1 ≤ off j ∧ off j ≤ 9) (h : ∀ j, j < 9 → p j = q j) : ∀ i, wsm off kp p i = wsm off kp q i
  | 0 => rfl
  | i + 1 => by
    have h1 := ho i
    show wsm off kp p i + p (off i - 1) * kp i / 10 = wsm off kp q i + q (off i - 1) * kp i / 10
    rw [wsm_cg ho h i, h (off i - 1) (by omega)]
/-- the history of colour c, if so much more is shown today -/
def hzm (off : Nat → Nat) (D : Day) (c mo : Nat) : Nat → Nat := fun k => if k = 0 then seeA off D c mo else if zsn D = 1 then 0 else ztn D (9 * c + (k - 1))
set_option maxHeartbeats 200000 in
theorem hzm_le {off : Nat → Nat} {D : Day} (hD : WD D) (c mo k : Nat) : hzm off D c mo k ≤ 999 := by
  unfold hzm
  split
  · exact seeA_le _ _ _ _
  · split
    · exact Nat.zero_le _
    · exact hD.2.1 _
/-- what is seen d days from now, so much more being shown today -/
def fcA (off : Nat → Nat) (D : Day) (c d mo : Nat) : Nat := hist off (zkp D) (fun _ => false) (hzm off D c mo) d 0
set_option maxHeartbeats 200000 in
theorem fcA_le {off : Nat → Nat} {D : Day} (hD : WD D) (c d mo : Nat) : fcA off D c d mo ≤ 999 := hist_le (hzm_le hD c mo) d 0
def ech0 (a : Nat) : Nat → Nat := fun k => if k = 0 then cap a else 0
set_option maxHeartbeats 200000 in
theorem ech0_le (a k : Nat) : ech0 a k ≤ 999 := by
  unfold ech0
  split
  · exact cap_le _
  · exact Nat.zero_le _
/-- the echo d days later of an amount shown in an empty gorge -/
def ecA (off kp : Nat → Nat) (a d : Nat) : Nat := hist off kp (fun _ => false) (ech0 a) d 0
set_option maxHeartbeats 200000 in
theorem ecA_le (off kp : Nat → Nat) (a d : Nat) : ecA off kp a d ≤ 999 := hist_le (ech0_le a) d 0
set_option maxHeartbeats 200000 in
theorem passA_kp {off : Nat → Nat} {D : Day} : zkp (passA off D) = zkp D := rfl
set_option maxHeartbeats 200000 in
theorem waitA_kp {off : Nat → Nat} {D : Day} : ∀ d, zkp (waitA off d D) = zkp D
  | 0 => rfl
  | d + 1 => waitA_kp d
set_option maxHeartbeats 200000 in
theorem hz_pass {off : Nat → Nat} {D : Day} (ho : ∀ j, 1 ≤ off j ∧ off j ≤ 9) (c : Nat) : ∀ k, k ≤ 9 → hzm off (passA off D) c 0 k = if k = 0 then cap (wsm off (zkp D) (hzm off D c 0) 4) else hzm off D c 0 (k - 1) := by
  have h1 : ∀ j, j < 9 → ztn (passA off D) (9 * c + j) = hzm off D c 0 j := by
    intro j hj
    show (if (9 * c + j) % 9 = 0 then seeA off D ((9 * c + j) / 9) 0 else if zsn D = 1 then 0 else ztn D (9 * c + j - 1)) = _
    unfold hzm
    by_cases q : j = 0
    · rw [if_pos (by omega), if_pos q]
      congr 1; omega
    · rw [if_neg (by omega), if_neg q]
      have e : 9 * c + j - 1 = 9 * c + (j - 1) := by omega
      rw [e]
  intro k hk
  by_cases q : k = 0
  · subst q
    rw [if_pos rfl]
    show seeA off (passA off D) c 0 = _
    unfold seeA
    rw [if_pos ⟨rfl, rfl⟩]
    show cap (0 + 0 + _) = _
    rw [Nat.zero_add]
    exact congrArg cap (wsm_cg ho h1 4)
  · rw [if_neg q]
    show (if k = 0 then _ else if (0 : Nat) = 1 then 0 else ztn (passA off D) (9 * c + (k - 1))) = _
    rw [if_neg q, if_neg (by decide)]
    exact h1 (k - 1) (by omega)
set_option maxHeartbeats 200000 in
theorem hz_wait {off : Nat → Nat} {D : Day} (ho : ∀ j, 1 ≤ off j ∧ off j ≤ 9) (c : Nat) : ∀ d k, k ≤ 9 → hzm off (waitA off d D) c 0 k = hist off (zkp D) (fun _ => false) (hzm off D c 0) d k
  | 0, k, _ => rfl
  | d + 1, k, hk => by
    show hzm off (passA off (waitA off d D)) c 0 k = if k = 0 then cap (wsm off (zkp D) (hist off (zkp D) (fun _ => false) (hzm off D c 0) d) 4) else hist off (zkp D) (fun _ => false) (hzm off D c 0) d (k - 1)
    rw [hz_pass ho c k hk, waitA_kp]
    by_cases q : k = 0
    · rw [if_pos q, if_pos q]
      exact congrArg cap (wsm_cg ho (fun j hj => hz_wait ho c d j (by omega)) 4)
    · rw [if_neg q, if_neg q]
      exact hz_wait ho c d (k - 1) (by omega)
set_option maxHeartbeats 200000 in
/-- the model's waiting: what it sees then -/
theorem see_wait {off : Nat → Nat} {D N : Day} (ho : ∀ j, 1 ≤ off j ∧ off j ≤ 9) {c mo : Nat} (d : Nat) (e1 : zsh N c = zsh D c + mo) (e2 : N.2 = D.2) : seeA off (waitA off d N) c 0 = fcA off D c d mo := by
  have h := hz_wait (D := N) ho c d 0 (by decide)
  have e : hzm off (waitA off d N) c 0 0 = seeA off (waitA off d N) c 0 := rfl
  rw [e] at h
  rw [h]
  unfold fcA
  have e3 : zkp N = zkp D := congrArg (fun x : (Nat → Nat) × (Nat → Nat) × Nat × Nat × Nat × Nat => x.2.1) e2
  have e4 : hzm off N c 0 = hzm off D c mo := by
    have e5 : seeA off N c 0 = seeA off D c mo := by
      unfold seeA
      rw [e1, Nat.add_zero]
      unfold zfg zsn zkp ztn
      rw [e2]
    funext k
    unfold hzm
    rw [e5]
    unfold zsn ztn
    rw [e2]
  rw [e3, e4]
set_option maxHeartbeats 200000 in
theorem wsm_0 {off kp : Nat → Nat} : ∀ i, wsm off kp (fun _ => 0) i = 0
  | 0 => rfl
  | i + 1 => by
    show wsm off kp (fun _ => 0) i + 0 * kp i / 10 = 0
    rw [wsm_0 i, Nat.zero_mul]
set_option maxHeartbeats 200000 in
theorem see_empty {off : Nat → Nat} {D N : Day} (ho : ∀ j, 1 ≤ off j ∧ off j ≤ 9) {c a : Nat} (d : Nat) (e1 : zsh N c = a) (e2 : N.2 = (emptyA D).2) : seeA off (waitA off d N) c 0 = ecA off (zkp D) a d := by
  have h := hz_wait (D := N) ho c d 0 (by decide)
  have e : hzm off (waitA off d N) c 0 0 = seeA off (waitA off d N) c 0 := rfl
  rw [e] at h
  rw [h]
  unfold ecA
  have e3 : zkp N = zkp D := (congrArg (fun x : (Nat → Nat) × (Nat → Nat) × Nat × Nat × Nat × Nat => x.2.1) e2 : zkp N = zkp (emptyA D))
  have e4 : hzm off N c 0 = ech0 a := by
    have e5 : seeA off N c 0 = cap a := by
      unfold seeA
      rw [e1, Nat.add_zero]
      unfold zfg zsn zkp ztn
      rw [e2]
      show cap (a + (if (0 : Nat) = 0 ∧ (0 : Nat) = 0 then wsm off (zkp D) (fun _ => 0) 4 else 0)) = cap a
      rw [if_pos ⟨rfl, rfl⟩, wsm_0, Nat.add_zero]
    funext k
    unfold hzm ech0
    rw [e5]
    unfold zsn ztn
    rw [e2]
    show (if k = 0 then cap a else if (0 : Nat) = 1 then 0 else 0) = _
    rw [if_neg (show ¬ (0 : Nat) = 1 by decide)]
  rw [e3, e4]
/-- the row holds the history up to day e -/
def RC (co : Co) (off kp : Nat → Nat) (fg : Nat → Bool) (h0 : Nat → Nat) (e : Nat) : Prop := ∀ j, j ≤ 9 + e → Co_row co j = nI (hist off kp fg h0 e (9 + e - j))
set_option maxHeartbeats 200000 in
theorem hist_back {off kp : Nat → Nat} {fg : Nat → Bool} {h0 : Nat → Nat} : ∀ (k d : Nat), hist off kp fg h0 (d + k) k = hist off kp fg h0 d 0
  | 0, d => rfl
  | k + 1, d => by
    show (if k + 1 = 0 then (if fg (d + k) then 0 else cap (wsm off kp (hist off kp fg h0 (d + k)) 4)) else hist off kp fg h0 (d + k) (k + 1 - 1)) = _
    rw [if_neg (Nat.succ_ne_zero k)]
    exact hist_back k d
set_option maxHeartbeats 200000 in
theorem RC_at {co : Co} {off kp : Nat → Nat} {fg : Nat → Bool} {h0 : Nat → Nat} {e d : Nat} (h : RC co off kp fg h0 e) (hd : d ≤ e) : Co_row co (9 + d) = nI (hist off kp fg h0 d 0) := by
  rw [h (9 + d) (by omega)]
  have e1 : 9 + e - (9 + d) = e - d := by omega
  have e2 : e = d + (e - d) := by omega
  rw [e1]
  conv => lhs; rw [e2]
  have e3 : d + (e - d) - d = e - d := by omega
  rw [e3, hist_back]
set_option maxHeartbeats 200000 in
theorem RC_step {co : Co} {off kp : Nat → Nat} {fg : Nat → Bool} {h0 : Nat → Nat} {e : Nat} (h : RC co off kp fg h0 e) (he : e < 100) : RC (Co_s_row co (upd (Co_row co) (nI (9 + (e + 1))).toNatClampNeg (nI (if fg e then 0 else cap (wsm off kp (hist off kp fg h0 e) 4))))) off kp fg h0 (e + 1) := by
  intro j hj
  show upd (Co_row co) (nI (9 + (e + 1))).toNatClampNeg _ j = _
  rw [nI_clamp (show 9 + (e + 1) < 2 ^ 31 by omega)]
  unfold upd
  show _ = nI (if 9 + (e + 1) - j = 0 then (if fg e then 0 else cap (wsm off kp (hist off kp fg h0 e) 4)) else hist off kp fg h0 e (9 + (e + 1) - j - 1))
  by_cases q : j = 9 + (e + 1)
  · rw [if_pos q, if_pos (show 9 + (e + 1) - j = 0 by omega)]
  · rw [if_neg q, if_neg (show ¬ 9 + (e + 1) - j = 0 by omega), h j (by omega)]
    congr 2; omega
set_option maxHeartbeats 200000 in
theorem pX0_at {co : Co} {off kp : Nat → Nat} {fg : Nat → Bool} {h0 : Nat → Nat} {e d : Nat} {Q : Int32 → Co → Prop} (h : RC co off kp fg h0 e) (hd : d ≤ e) (he : e ≤ 60) (hq : Q (nI (hist off kp fg h0 d 0)) co) : wpX0_at co (nI d) Q := by
  unfold wpX0_at
  have e1 : 9 + nI d = nI (9 + d) := by simp (disch := omega) only [k_0, k_1, k_2, k_3, k_4, k_5, k_6, k_7, k_8, k_9, k_10, k_15, k_16, k_18, k_20, k_26, k_27, k_31, k_33, k_46, k_48, k_49, k_51, k_53, k_57, k_60, k_61, k_63, k_64, k_65, k_70, k_71, k_74, k_75, k_80, k_81, k_82, k_83, k_84, k_85, k_98, k_99, k_100, k_102, k_114, k_115, k_119, k_121, k_126, k_200, k_999, k_1000, k_3000, k_9999, k_65537, k_1000000, k_999999999, k_500, n_mul, n_add, n_sub, n_div]
  rw [e1, nI_clamp (show 9 + d < 2 ^ 31 by omega), RC_at h hd]
  exact ck1X6_isAhead (fun c => absurd (inR_of (n := 60) (by decide) (by omega)) c) (fun _ => ⟨vp_in_nI (by omega) (by decide), hq⟩)
set_option maxHeartbeats 200000 in
theorem pX0_fromNow {co : Co} {g : Gr} {S : Sta} {D : Day} {c mo : Nat} (fg : Nat → Bool) {Q : Co → Gr → Prop} (hR : RG g S D) (hS : WS S) (hD : WD D) (hc : c < 3) (hm : mo ≤ 99999) (h : ∀ co', RC co' (zoff S) (zkp D) fg (hzm (zoff S) D c mo) 0 → Q co' g) : wpX0_fromNow co g (nI c) (nI mo) Q := by
  have hsn : Gr_snow g = nI (zsn D) := hR.2.2.2.2.2.2.2.2.2.2.1
  have hs1 := hD.2.2.2.2.1
  unfold wpX0_fromNow
  have key : ∀ a, a ≤ 10 → ∃ n, 1 ≤ a → ∀ co : Co, (∀ j, 10 - a ≤ j → j < 9 → Co_row co j = nI (hzm (zoff S) D c mo (9 - j))) → wpX0_fromNow_L3 Q n co g (nI c) (nI mo) (nI a) := by
    refine up_loop 10 (fun n => ?_) (fun n a ha ih => ?_)
    · intro _ co hrow
      show wpX0_fromNow_H3 Q _ _ _ _ _ _
      unfold wpX0_fromNow_H3
      refine br_t (nI_lt (by decide) (by decide)) ?_
      refine pX3_seenToday hR hS hD hc hm ⟨vp_in_nI (n := 9) (by decide) (by decide), h _ ?_⟩
      intro j hj
      show upd (Co_row co) (nI 9).toNatClampNeg _ j = _
      rw [nI_clamp (show 9 < 2 ^ 31 by decide)]
      unfold upd
      by_cases q : j = 9
      · rw [if_pos q, q]; rfl
      · rw [if_neg q, hrow j (by omega) (by omega)]; rfl
    · intro h1 co hrow
      show wpX0_fromNow_H3 Q _ _ _ _ _ _
      unfold wpX0_fromNow_H3
      have e9 : 9 - nI a = nI (9 - a) := by simp (disch := omega) only [k_0, k_1, k_2, k_3, k_4, k_5, k_6, k_7, k_8, k_9, k_10, k_15, k_16, k_18, k_20, k_26, k_27, k_31, k_33, k_46, k_48, k_49, k_51, k_53, k_57, k_60, k_61, k_63, k_64, k_65, k_70, k_71, k_74, k_75, k_80, k_81, k_82, k_83, k_84, k_85, k_98, k_99, k_100, k_102, k_114, k_115, k_119, k_121, k_126, k_200, k_999, k_1000, k_3000, k_9999, k_65537, k_1000000, k_999999999, k_500, n_mul, n_add, n_sub, n_div]
      have go : ∀ v, v = hzm (zoff S) D c mo a → wpX0_fromNow_B37 Q (wpX0_fromNow_L3 Q n) co g (nI c) (nI mo) (nI a) (9 - nI a) (nI v) := by
        intro v hv
        unfold wpX0_fromNow_B37
        rw [e9]
        refine ⟨vp_in_nI (by omega) (by decide), nm_r (nI_1 a) (ih (by omega) _ ?_)⟩
        intro j hj hj9
        show upd (Co_row co) (nI (9 - a)).toNatClampNeg _ j = _
        rw [nI_clamp (show 9 - a < 2 ^ 31 by omega)]
        unfold upd
        by_cases q : j = 9 - a
        · rw [if_pos q, hv]
          congr 2; omega
        · rw [if_neg q, hrow j (by omega) hj9]
      rw [hsn]
      refine br_f (nI_nlt (a := 9) (b := a) (by omega) (by decide)) ?_
      refine pk_eq (zsn D) 0 (fun q => ?_) (fun q => ?_)
      · refine pX3_seenAgo hR hc (by omega) (by omega) (go _ ?_)
        unfold hzm
        rw [if_neg (by omega), if_neg (by omega)]
      · refine go 0 ?_
        unfold hzm
        rw [if_neg (by omega), if_pos (by omega)]
  obtain ⟨n, hn⟩ := key 1 (by decide)
  exact ⟨n, hn (by decide) co (fun j h1 h2 => absurd h2 (by omega))⟩
set_option maxHeartbeats 200000 in
theorem pX0_fromNothing {co : Co} {a : Nat} (off kp : Nat → Nat) (fg : Nat → Bool) {Q : Co → Prop} (ha : a < 1000000) (h : ∀ co', RC co' off kp fg (ech0 a) 0 → Q co') : wpX0_fromNothing co (nI a) Q := by
  unfold wpX0_fromNothing
  have key : ∀ b, b ≤ 10 → ∃ n, 1 ≤ b → ∀ co : Co, (∀ j, 10 - b ≤ j → j < 9 → Co_row co j = nI 0) → wpX0_fromNothing_L2 Q n co (nI a) (nI b) := by
    refine up_loop 10 (fun n => ?_) (fun n b hb ih => ?_)
    · intro _ co hrow
      show wpX0_fromNothing_H2 Q _ _ _ _
      unfold wpX0_fromNothing_H2
      refine br_t (nI_lt (by decide) (by decide)) ?_
      refine pX6_capped (by omega) ⟨vp_in_nI (n := 9) (by decide) (by decide), h _ ?_⟩
      intro j hj
      show upd (Co_row co) (nI 9).toNatClampNeg _ j = nI (ech0 a (9 + 0 - j))
      rw [nI_clamp (show 9 < 2 ^ 31 by decide)]
      unfold upd ech0
      by_cases q : j = 9
      · rw [if_pos q, if_pos (by omega)]
      · rw [if_neg q, if_neg (by omega), hrow j (by omega) (by omega)]
    · intro h1 co hrow
      show wpX0_fromNothing_H2 Q _ _ _ _
      unfold wpX0_fromNothing_H2
      have e9 : 9 - nI b = nI (9 - b) := by simp (disch := omega) only [k_0, k_1, k_2, k_3, k_4, k_5, k_6, k_7, k_8, k_9, k_10, k_15, k_16, k_18, k_20, k_26, k_27, k_31, k_33, k_46, k_48, k_49, k_51, k_53, k_57, k_60, k_61, k_63, k_64, k_65, k_70, k_71, k_74, k_75, k_80, k_81, k_82, k_83, k_84, k_85, k_98, k_99, k_100, k_102, k_114, k_115, k_119, k_121, k_126, k_200, k_999, k_1000, k_3000, k_9999, k_65537, k_1000000, k_999999999, k_500, n_mul, n_add, n_sub, n_div]
      rw [e9]
      refine br_f (nI_nlt (a := 9) (b := b) (by omega) (by decide)) ⟨vp_in_nI (by omega) (by decide), nm_r (nI_1 b) (ih (by omega) _ ?_)⟩
      intro j hj hj9
      show upd (Co_row co) (nI (9 - b)).toNatClampNeg _ j = _
      rw [nI_clamp (show 9 - b < 2 ^ 31 by omega)]
      unfold upd
      by_cases q : j = 9 - b
      · rw [if_pos q]; rfl
      · rw [if_neg q, hrow j (by omega) hj9]
  obtain ⟨n, hn⟩ := key 1 (by decide)
  exact ⟨n, hn (by decide) co (fun j h1 h2 => absurd h2 (by omega))⟩
set_option maxHeartbeats 200000 in
theorem pX0_offWalls {co : Co} {g : Gr} {S : Sta} {D : Day} {fg : Nat → Bool} {h0 : Nat → Nat} {e : Nat} {Q : Int32 → Co → Gr → Prop} (hR : RG g S D) (hS : WS S) (hD : WD D) (hh : ∀ k, h0 k ≤ 999) (hC : RC co (zoff S) (zkp D) fg h0 e) (he : e < 60) (h : Q (nI (cap (wsm (zoff S) (zkp D) (hist (zoff S) (zkp D) fg h0 e) 4))) co g) : wpX0_offWalls co g (nI (9 + (e + 1))) Q := by
  have hoff := hR.1
  have hkp : aI 4 (Gr_keeps g) (zkp D) := hR.2.2.2.2.2.2.2.2.1
  have hw := wsm_le (off := zoff S) (kp := zkp D) (p := hist (zoff S) (zkp D) fg h0 e) hD.2.2.1 (fun j => hist_le hh e j)
  unfold wpX0_offWalls
  have key : ∀ i, i ≤ 4 → ∃ n, wpX0_offWalls_L5 Q n co g (nI (9 + (e + 1))) (nI (wsm (zoff S) (zkp D) (hist (zoff S) (zkp D) fg h0 e) i)) (nI i) := by
    refine up_loop 4 (fun n => ?_) (fun n i hi ih => ?_)
    · show wpX0_offWalls_H5 Q _ _ _ _ _ _
      unfold wpX0_offWalls_H5
      have h4 := hw 4
      exact br_t (nI_le (by decide) (by decide)) (pX6_capped (by omega) h)
    · show wpX0_offWalls_H5 Q _ _ _ _ _ _
      unfold wpX0_offWalls_H5
      have ho := hS.1 i
      rw [aI_rd hoff hi, aI_rd hkp hi]
      have e1 : nI (9 + (e + 1)) - nI (zoff S i) = nI (9 + (e + 1) - zoff S i) := by simp (disch := omega) only [k_0, k_1, k_2, k_3, k_4, k_5, k_6, k_7, k_8, k_9, k_10, k_15, k_16, k_18, k_20, k_26, k_27, k_31, k_33, k_46, k_48, k_49, k_51, k_53, k_57, k_60, k_61, k_63, k_64, k_65, k_70, k_71, k_74, k_75, k_80, k_81, k_82, k_83, k_84, k_85, k_98, k_99, k_100, k_102, k_114, k_115, k_119, k_121, k_126, k_200, k_999, k_1000, k_3000, k_9999, k_65537, k_1000000, k_999999999, k_500, n_mul, n_add, n_sub, n_div]
      rw [e1]
      have e2 : 9 + e - (9 + (e + 1) - zoff S i) = zoff S i - 1 := by omega
      refine br_f (nI_ge hi (by decide)) ⟨vp_in_nI hi (by decide), nm_e ?_⟩
      rw [nI_clamp (show 9 + (e + 1) - zoff S i < 2 ^ 31 by omega), hC _ (by omega), e2]
      refine br_f (nI_pos (by omega)) (br_f (nI_ge (by omega) (by omega)) ⟨vp_in_nI (by omega) (by decide), vp_in_nI hi (by decide), ?_⟩)
      unfold wpX0_offWalls_B56
      have h1 : hist (zoff S) (zkp D) fg h0 e (zoff S i - 1) * zkp D i ≤ 999 * 9 := Nat.mul_le_mul (hist_le hh e _) (hD.2.2.1 _)
      refine nm_r (e' := nI (wsm (zoff S) (zkp D) (hist (zoff S) (zkp D) fg h0 e) (i + 1))) ?_ (nm_r (nI_1 i) ih)
      simp (disch := omega) only [k_0, k_1, k_2, k_3, k_4, k_5, k_6, k_7, k_8, k_9, k_10, k_15, k_16, k_18, k_20, k_26, k_27, k_31, k_33, k_46, k_48, k_49, k_51, k_53, k_57, k_60, k_61, k_63, k_64, k_65, k_70, k_71, k_74, k_75, k_80, k_81, k_82, k_83, k_84, k_85, k_98, k_99, k_100, k_102, k_114, k_115, k_119, k_121, k_126, k_200, k_999, k_1000, k_3000, k_9999, k_65537, k_1000000, k_999999999, k_500, n_mul, n_add, n_sub, n_div]
      rfl
  exact key 0 (by decide)
/-- the fogs told by bits -/
def fogB (f : Nat) : Nat → Bool := fun i => decide (i < 8) && decide (f / 2 ^ i % 2 = 1)
set_option maxHeartbeats 200000 in
theorem pX0_run {co : Co} {g : Gr} {S : Sta} {D : Day} {h0 : Nat → Nat} {d f : Nat} {Q : Co → Gr → Prop} (hR : RG g S D) (hS : WS S) (hD : WD D) (hh : ∀ k, h0 k ≤ 999) (hC : RC co (zoff S) (zkp D) (fogB f) h0 0) (hd : d ≤ 60) (hf : f < 2147483648) (h : ∀ co', RC co' (zoff S) (zkp D) (fogB f) h0 d → Q co' g) : wpX0_run co g (nI d) (nI f) Q := by
  unfold wpX0_run
  have key : ∀ e, e ≤ d → ∃ n, ∀ co : Co, RC co (zoff S) (zkp D) (fogB f) h0 e → wpX0_run_L3 Q n co g (nI d) (nI f) (nI (e + 1)) := by
    refine up_loop d (fun n => ?_) (fun n e he ih => ?_)
    · intro co hC
      show wpX0_run_H3 Q _ _ _ _ _ _
      unfold wpX0_run_H3
      exact br_t (nI_lt (by omega) (by omega)) (h co hC)
    · intro co hC
      show wpX0_run_H3 Q _ _ _ _ _ _
      unfold wpX0_run_H3
      have e9 : 9 + nI (e + 1) = nI (9 + (e + 1)) := by simp (disch := omega) only [k_0, k_1, k_2, k_3, k_4, k_5, k_6, k_7, k_8, k_9, k_10, k_15, k_16, k_18, k_20, k_26, k_27, k_31, k_33, k_46, k_48, k_49, k_51, k_53, k_57, k_60, k_61, k_63, k_64, k_65, k_70, k_71, k_74, k_75, k_80, k_81, k_82, k_83, k_84, k_85, k_98, k_99, k_100, k_102, k_114, k_115, k_119, k_121, k_126, k_200, k_999, k_1000, k_3000, k_9999, k_65537, k_1000000, k_999999999, k_500, n_mul, n_add, n_sub, n_div]
      have e8 : nI (e + 1) - 1 = nI e := by simp (disch := omega) only [k_0, k_1, k_2, k_3, k_4, k_5, k_6, k_7, k_8, k_9, k_10, k_15, k_16, k_18, k_20, k_26, k_27, k_31, k_33, k_46, k_48, k_49, k_51, k_53, k_57, k_60, k_61, k_63, k_64, k_65, k_70, k_71, k_74, k_75, k_80, k_81, k_82, k_83, k_84, k_85, k_98, k_99, k_100, k_102, k_114, k_115, k_119, k_121, k_126, k_200, k_999, k_1000, k_3000, k_9999, k_65537, k_1000000, k_999999999, k_500, n_mul, n_add, n_sub, n_div]; first | rfl | (congr 1; omega)
      have fin : ∀ v, v = (if fogB f e then 0 else cap (wsm (zoff S) (zkp D) (hist (zoff S) (zkp D) (fogB f) h0 e) 4)) → wpX0_run_B69 Q (wpX0_run_L3 Q n) co g (nI d) (nI f) (nI (e + 1)) (9 + nI (e + 1)) (nI v) := by
        intro v hv
        unfold wpX0_run_B69
        rw [e9]
        refine ⟨vp_in_nI (by omega) (by decide), nm_r (nI_1 (e + 1)) (ih _ ?_)⟩
        rw [hv]
        exact RC_step hC (by omega)
      have b31 : fogB f e = false → wpX0_run_B38 Q (wpX0_run_L3 Q n) co g (nI d) (nI f) (nI (e + 1)) := by
        intro q
        unfold wpX0_run_B38 wpX0_run_B39
        refine br_t rfl ?_
        rw [e9]
        refine pX0_offWalls hR hS hD hh hC (by omega) ?_
        have := fin _ rfl
        rw [q, if_neg (by decide), e9] at this
        exact this
      rw [e8]
      refine br_f (nI_nlt (by omega) (by omega)) (br_f (nI_nlt (a := 60) (b := e + 1) (by omega) (by decide)) ?_)
      refine pk_lt 8 (e + 1) (fun q => b31 ?_) (fun q => ?_)
      · unfold fogB
        rw [decide_eq_false (by omega), Bool.false_and]
      · refine pX6_has hf (by omega) (fun q2 => ?_) (fun q2 => ?_)
        · refine br_f one_ne ?_
          unfold wpX0_run_B39
          refine br_f one_ne (fin 0 ?_)
          have e7 : fogB f e = true := by
            unfold fogB
            rw [decide_eq_true (by omega), Bool.true_and]
            exact decide_eq_true q2
          rw [e7, if_pos rfl]
        · refine br_t rfl (b31 ?_)
          unfold fogB
          rw [decide_eq_true (by omega), Bool.true_and]
          exact decide_eq_false q2
  obtain ⟨n, hn⟩ := key 0 (Nat.zero_le _)
  exact ⟨n, hn co hC⟩
set_option maxHeartbeats 200000 in
theorem fogB_0 : fogB 0 = fun _ => false := by
  funext i
  unfold fogB
  rw [Nat.zero_div]
  simp
set_option maxHeartbeats 200000 in
theorem pX6_seenWith {g : Gr} {co : Co} {S : Sta} {D : Day} {c d mo : Nat} {Q : Int32 → Gr → Co → Prop} (hR : RG g S D) (hS : WS S) (hD : WD D) (hc : c < 3) (hd : d ≤ 60) (hm : mo ≤ 99999) (h : ∀ co', Q (nI (fcA (zoff S) D c d mo)) g co') : wpX6_seenWith g co (nI c) (nI d) (nI mo) Q := by
  unfold wpX6_seenWith
  refine pX0_fromNow (fogB 0) hR hS hD hc hm (fun co1 h1 => ?_)
  refine pX0_run (f := 0) hR hS hD (hzm_le hD c mo) h1 hd (by decide) (fun co2 h2 => ?_)
  refine pX0_at h2 (Nat.le_refl d) hd ?_
  rw [fogB_0]
  exact h co2
set_option maxHeartbeats 200000 in
theorem pX6_echoAlone {g : Gr} {co : Co} {S : Sta} {D : Day} {a d : Nat} {Q : Int32 → Gr → Co → Prop} (hR : RG g S D) (hS : WS S) (hD : WD D) (ha : a < 1000000) (hd : d ≤ 60) (h : ∀ co', Q (nI (ecA (zoff S) (zkp D) a d)) g co') : wpX6_echoAlone g co (nI a) (nI d) Q := by
  unfold wpX6_echoAlone
  refine pX0_fromNothing (zoff S) (zkp D) (fogB 0) ha (fun co1 h1 => ?_)
  refine pX0_run (f := 0) hR hS hD (ech0_le a) h1 hd (by decide) (fun co2 h2 => ?_)
  refine pX0_at h2 (Nat.le_refl d) hd ?_
  rw [fogB_0]
  exact h co2
