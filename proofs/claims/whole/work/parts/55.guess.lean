/-! guesses: spec. u = 10 * day + tens -/
def sbA (S : Sta) (kp : Nat → Nat) (u day : Nat) : Nat := if u / 10 ≤ day then ecA (zoff S) kp (10 * (u % 10)) (day - u / 10) else 0
set_option maxHeartbeats 200000 in
theorem sbA_le (S : Sta) (kp : Nat → Nat) (u day : Nat) : sbA S kp u day ≤ 999 := by
  unfold sbA
  split
  · exact ecA_le _ _ _ _
  · exact Nat.zero_le _
abbrev ftA (S : Sta) (kp : Nat → Nat) (u : Nat) : Prop := ∀ i, i < zns S → sbA S kp u (zsd S i) = zsa S i
abbrev okG (S : Sta) (kp : Nat → Nat) (u : Nat) : Prop := 1 ≤ u % 10 ∧ ftA S kp u
def cG (S : Sta) (kp : Nat → Nat) : Nat → Nat
  | 0 => 0
  | n + 1 => if okG S kp n then cG S kp n + 1 else cG S kp n
def gth (S : Sta) (kp : Nat → Nat) : Nat → Nat → Nat
  | 0, _ => 0
  | n + 1, i => if okG S kp n ∧ cG S kp n = i then n else gth S kp n i
set_option maxHeartbeats 200000 in
theorem cG_ok {S : Sta} {kp : Nat → Nat} {n : Nat} (h : okG S kp n) : cG S kp (n + 1) = cG S kp n + 1 := if_pos h
set_option maxHeartbeats 200000 in
theorem cG_no {S : Sta} {kp : Nat → Nat} {n : Nat} (h : ¬ okG S kp n) : cG S kp (n + 1) = cG S kp n := if_neg h
set_option maxHeartbeats 200000 in
theorem cG_mono {S : Sta} {kp : Nat → Nat} (n : Nat) : ∀ k, cG S kp n ≤ cG S kp (n + k)
  | 0 => Nat.le_refl _
  | k + 1 => by
    have ih := cG_mono (S := S) (kp := kp) n k
    show _ ≤ (if okG S kp (n + k) then cG S kp (n + k) + 1 else cG S kp (n + k))
    split <;> omega
set_option maxHeartbeats 200000 in
theorem cG_le {S : Sta} {kp : Nat → Nat} : ∀ n, cG S kp n ≤ n
  | 0 => Nat.le_refl _
  | n + 1 => by
    have ih := cG_le (S := S) (kp := kp) n
    show (if okG S kp n then cG S kp n + 1 else cG S kp n) ≤ n + 1
    split <;> omega
set_option maxHeartbeats 200000 in
theorem cG_90 {S : Sta} {kp : Nat → Nat} : ∀ d t, t ≤ 9 → cG S kp (10 * d + (t + 1)) ≤ 9 * d + t
  | 0, 0, _ => by
    have : ¬ okG S kp 0 := fun h => absurd h.1 (by decide)
    show cG S kp (0 + 1) ≤ 0
    rw [cG_no this]; exact Nat.le_refl _
  | d + 1, 0, _ => by
    have h := cG_90 (S := S) (kp := kp) d 9 (by decide)
    have e : 10 * (d + 1) + (0 + 1) = (10 * d + (9 + 1)) + 1 := by omega
    have : ¬ okG S kp (10 * d + (9 + 1)) := fun h => absurd h.1 (by omega)
    rw [e, cG_no this]; omega
  | d, t + 1, ht => by
    have h := cG_90 (S := S) (kp := kp) d t (by omega)
    show (if okG S kp (10 * d + (t + 1)) then cG S kp (10 * d + (t + 1)) + 1 else cG S kp (10 * d + (t + 1))) ≤ 9 * d + (t + 1)
    split <;> omega
set_option maxHeartbeats 200000 in
theorem cG_100 {S : Sta} {kp : Nat → Nat} : cG S kp 100 ≤ 90 := by
  have h := cG_90 (S := S) (kp := kp) 9 9 (by decide)
  omega
set_option maxHeartbeats 200000 in
theorem gth_ok {S : Sta} {kp : Nat → Nat} {u : Nat} (h : okG S kp u) : ∀ n, u < n → gth S kp n (cG S kp u) = u := by
  intro n
  induction n with
  | zero => intro h; exact absurd h (Nat.not_lt_zero u)
  | succ n ih =>
    intro hu
    show (if okG S kp n ∧ cG S kp n = cG S kp u then n else gth S kp n (cG S kp u)) = u
    by_cases q : u = n
    · rw [if_pos ⟨q ▸ h, by rw [q]⟩, q]
    · rw [if_neg ?_]
      · exact ih (by omega)
      · intro w
        have h1 := cG_ok h
        have h2 := cG_mono (S := S) (kp := kp) (u + 1) (n - (u + 1))
        have e : u + 1 + (n - (u + 1)) = n := by omega
        rw [e] at h2
        omega
set_option maxHeartbeats 200000 in
theorem gth_ex {S : Sta} {kp : Nat → Nat} {i : Nat} : ∀ n, i < cG S kp n → ∃ u, u < n ∧ okG S kp u ∧ cG S kp u = i := by
  intro n
  induction n with
  | zero => intro h; exact absurd h (Nat.not_lt_zero i)
  | succ n ih =>
    intro h
    by_cases q : okG S kp n
    · rw [cG_ok q] at h
      by_cases q2 : cG S kp n = i
      · exact ⟨n, by omega, q, q2⟩
      · obtain ⟨u, h1, h2, h3⟩ := ih (by omega)
        exact ⟨u, by omega, h2, h3⟩
    · rw [cG_no q] at h
      obtain ⟨u, h1, h2, h3⟩ := ih h
      exact ⟨u, by omega, h2, h3⟩
set_option maxHeartbeats 200000 in
theorem gth_is {S : Sta} {kp : Nat → Nat} {i : Nat} (h : i < cG S kp 100) : gth S kp 100 i < 100 ∧ okG S kp (gth S kp 100 i) ∧ cG S kp (gth S kp 100 i) = i := by
  obtain ⟨u, h1, h2, h3⟩ := gth_ex 100 h
  have e := gth_ok h2 100 h1
  rw [h3] at e
  rw [e]
  exact ⟨h1, h2, h3⟩
/-- the tally and its most behind j guesses that fit -/
def TJ (S : Sta) (kp : Nat → Nat) (day : Nat) : Nat → Nat → Nat
  | 0 => fun _ => 0
  | j + 1 => fU (TJ S kp day j) (sbA S kp (gth S kp 100 j) day) (TJ S kp day j (sbA S kp (gth S kp 100 j) day) + 1)
def MJ (S : Sta) (kp : Nat → Nat) (day : Nat) : Nat → Nat
  | 0 => 0
  | j + 1 => max (MJ S kp day j) (TJ S kp day j (sbA S kp (gth S kp 100 j) day) + 1)
set_option maxHeartbeats 200000 in
theorem TJ_le {S : Sta} {kp : Nat → Nat} {day : Nat} : ∀ j v, TJ S kp day j v ≤ j
  | 0, _ => Nat.le_refl _
  | j + 1, v => by
    have h1 := TJ_le (S := S) (kp := kp) (day := day) j v
    have h2 := TJ_le (S := S) (kp := kp) (day := day) j (sbA S kp (gth S kp 100 j) day)
    show fU _ _ _ v ≤ _
    unfold fU
    split <;> omega
set_option maxHeartbeats 200000 in
theorem MJ_le {S : Sta} {kp : Nat → Nat} {day : Nat} : ∀ j, MJ S kp day j ≤ j
  | 0 => Nat.le_refl _
  | j + 1 => by
    have h1 := MJ_le (S := S) (kp := kp) (day := day) j
    have h2 := TJ_le (S := S) (kp := kp) (day := day) j (sbA S kp (gth S kp 100 j) day)
    show max _ _ ≤ _
    omega
set_option maxHeartbeats 200000 in
theorem MJ_pos {S : Sta} {kp : Nat → Nat} {day : Nat} (j : Nat) (h : 0 < j) : 0 < MJ S kp day j := by
  cases j with
  | zero => exact absurd h (Nat.lt_irrefl 0)
  | succ j =>
    show 0 < max _ _
    omega
set_option maxHeartbeats 200000 in
theorem TJ_nz {S : Sta} {kp : Nat → Nat} {day : Nat} : ∀ j v, TJ S kp day j v ≠ 0 → ∃ i, i < j ∧ sbA S kp (gth S kp 100 i) day = v
  | 0, _, h => absurd rfl h
  | j + 1, v, h => by
    by_cases q : v = sbA S kp (gth S kp 100 j) day
    · exact ⟨j, by omega, q.symm⟩
    · have e : TJ S kp day (j + 1) v = TJ S kp day j v := fU_n q
      rw [e] at h
      obtain ⟨i, h1, h2⟩ := TJ_nz j v h
      exact ⟨i, by omega, h2⟩
def mlA (S : Sta) (kp : Nat → Nat) (day : Nat) : Nat := MJ S kp day (cG S kp 100)
def lkA (S : Sta) (kp : Nat → Nat) : Nat → Nat × Nat
  | 0 => (0, mlA S kp 0)
  | n + 1 => if mlA S kp (n + 1) < (lkA S kp n).2 then (n + 1, mlA S kp (n + 1)) else lkA S kp n
set_option maxHeartbeats 200000 in
theorem mlA_le {S : Sta} {kp : Nat → Nat} {day : Nat} : mlA S kp day ≤ 90 := Nat.le_trans (MJ_le _) cG_100
set_option maxHeartbeats 200000 in
theorem lkA_le {S : Sta} {kp : Nat → Nat} : ∀ n, (lkA S kp n).1 ≤ n ∧ (lkA S kp n).2 ≤ 90
  | 0 => ⟨Nat.le_refl _, mlA_le⟩
  | n + 1 => by
    have ih := lkA_le (S := S) (kp := kp) n
    show (if mlA S kp (n + 1) < (lkA S kp n).2 then (n + 1, mlA S kp (n + 1)) else lkA S kp n).1 ≤ _ ∧ _
    by_cases q : mlA S kp (n + 1) < (lkA S kp n).2
    · have e : lkA S kp (n + 1) = (n + 1, mlA S kp (n + 1)) := if_pos q
      rw [e, if_pos q]; exact ⟨Nat.le_refl _, mlA_le⟩
    · have e : lkA S kp (n + 1) = lkA S kp n := if_neg q
      rw [e, if_neg q]; exact ⟨by omega, ih.2⟩
def shownA (S : Sta) (kp : Nat → Nat) (p1 : Int32) : Int32 := if p1 = -1 then nI (cG S kp 100) else if ¬ p1 < 0 ∧ p1.toNatClampNeg < cG S kp 100 then nI (gth S kp 100 p1.toNatClampNeg) else -6
def lookA (S : Sta) (kp : Nat → Nat) (p1 : Int32) : Int32 := if inR p1 0 1 then (if cG S kp 100 = 0 then -6 else if p1 = 0 then nI (lkA S kp 60).1 else nI (lkA S kp 60).2) else -2
/-- the echoes of all tens -/
def REc (vu : Gu) (S : Sta) (kp : Nat → Nat) (T : Nat) : Prop := ∀ t d, 1 ≤ t → t < T → d ≤ 60 → Gu_echo vu ((t - 1) * 61 + d) = nI (ecA (zoff S) kp (10 * t) d)
def RT0 (vu : Gu) : Prop := ∀ v, v < 1000 → Gu_tally vu v = 0
set_option maxHeartbeats 200000 in
theorem pX4_fillEcho {vu : Gu} {g : Gr} {co : Co} {S : Sta} {D : Day} {Q : Gu → Gr → Co → Prop} (hR : RG g S D) (hS : WS S) (hD : WD D) (h : ∀ vu' co', Gu_tally vu' = Gu_tally vu → REc vu' S (zkp D) 10 → Q vu' g co') : wpX4_fillEcho vu g co Q := by
  unfold wpX4_fillEcho
  have key : ∀ t, t ≤ 10 → ∃ n, 1 ≤ t → ∀ (vu' : Gu) (co : Co), Gu_tally vu' = Gu_tally vu → REc vu' S (zkp D) t → wpX4_fillEcho_L2 Q n vu' g co (nI t) := by
    refine up_loop 10 (fun n => ?_) (fun n t ht ih => ?_)
    · intro _ vu' co e1 e2
      show wpX4_fillEcho_H2 Q _ _ _ _ _
      unfold wpX4_fillEcho_H2
      exact br_t (nI_lt (by decide) (by decide)) (h vu' co e1 e2)
    · intro h1 vu' co e1 e2
      show wpX4_fillEcho_H2 Q _ _ _ _ _
      unfold wpX4_fillEcho_H2
      have e10 : 10 * nI t = nI (10 * t) := by simp (disch := omega) only [k_0, k_1, k_2, k_3, k_4, k_5, k_6, k_7, k_8, k_9, k_10, k_15, k_16, k_18, k_20, k_26, k_27, k_31, k_33, k_46, k_48, k_49, k_51, k_53, k_57, k_60, k_61, k_63, k_64, k_65, k_70, k_71, k_74, k_75, k_80, k_81, k_82, k_83, k_84, k_85, k_98, k_99, k_100, k_102, k_114, k_115, k_119, k_121, k_126, k_200, k_999, k_1000, k_3000, k_9999, k_65537, k_1000000, k_999999999, k_500, n_mul, n_add, n_sub, n_div]
      rw [e10]
      refine br_f (nI_nlt (a := 9) (b := t) (by omega) (by decide)) ?_
      refine pX0_fromNothing (zoff S) (zkp D) (fogB 0) (by omega) (fun co1 hc1 => ?_)
      refine pX0_run (d := 60) (f := 0) hR hS hD (ech0_le _) hc1 (by decide) (by decide) (fun co2 hc2 => ?_)
      have inner : ∀ d, d ≤ 61 → ∃ k, ∀ vu2 : Gu, Gu_tally vu2 = Gu_tally vu → REc vu2 S (zkp D) t → (∀ e, e < d → Gu_echo vu2 ((t - 1) * 61 + e) = nI (ecA (zoff S) (zkp D) (10 * t) e)) → wpX4_fillEcho_L27 Q (wpX4_fillEcho_L2 Q n) k vu2 g co2 (nI t) (nI d) := by
        refine up_loop 61 (fun k => ?_) (fun k d hd ihd => ?_)
        · intro vu2 y1 y2 y3
          show wpX4_fillEcho_H27 Q _ _ _ _ _ _ _
          unfold wpX4_fillEcho_H27
          refine br_t (nI_lt (by decide) (by decide)) (nm_r (nI_1 t) (ih (by omega) vu2 co2 y1 (fun t' d' q1 q2 q3 => ?_)))
          by_cases q : t' = t
          · rw [q]; exact y3 d' (by omega)
          · exact y2 t' d' q1 (by omega) q3
        · intro vu2 y1 y2 y3
          show wpX4_fillEcho_H27 Q _ _ _ _ _ _ _
          unfold wpX4_fillEcho_H27
          refine br_f (nI_nlt (a := 60) (b := d) (by omega) (by decide)) ?_
          refine pX0_at hc2 (by omega) (by decide) ?_
          have ee : (nI t - 1) * 61 + nI d = nI ((t - 1) * 61 + d) := by simp (disch := omega) only [k_0, k_1, k_2, k_3, k_4, k_5, k_6, k_7, k_8, k_9, k_10, k_15, k_16, k_18, k_20, k_26, k_27, k_31, k_33, k_46, k_48, k_49, k_51, k_53, k_57, k_60, k_61, k_63, k_64, k_65, k_70, k_71, k_74, k_75, k_80, k_81, k_82, k_83, k_84, k_85, k_98, k_99, k_100, k_102, k_114, k_115, k_119, k_121, k_126, k_200, k_999, k_1000, k_3000, k_9999, k_65537, k_1000000, k_999999999, k_500, n_mul, n_add, n_sub, n_div]
          rw [ee]
          refine ⟨vp_in_nI (by omega) (by decide), nm_r (nI_1 d) (ihd _ y1 (fun t' d' q1 q2 q3 => ?_) (fun e he => ?_))⟩
          · show upd (Gu_echo vu2) (nI ((t - 1) * 61 + d)).toNatClampNeg _ _ = _
            rw [nI_clamp (show (t - 1) * 61 + d < 2 ^ 31 by omega)]
            unfold upd
            rw [if_neg (by omega)]
            exact y2 t' d' q1 q2 q3
          · show upd (Gu_echo vu2) (nI ((t - 1) * 61 + d)).toNatClampNeg _ _ = _
            rw [nI_clamp (show (t - 1) * 61 + d < 2 ^ 31 by omega)]
            unfold upd
            by_cases q : e = d
            · rw [if_pos (by omega), q]
              rw [fogB_0]; rfl
            · rw [if_neg (by omega)]
              exact y3 e (by omega)
      obtain ⟨k, hk⟩ := inner 0 (by decide)
      exact ⟨k, hk vu' e1 e2 (fun e he => absurd he (Nat.not_lt_zero e))⟩
  obtain ⟨n, hn⟩ := key 1 (by decide)
  exact ⟨n, hn (by decide) vu co rfl (fun t d q1 q2 => absurd q2 (by omega))⟩
set_option maxHeartbeats 200000 in
theorem pX4_seenBy {vu : Gu} {S : Sta} {kp : Nat → Nat} {u day : Nat} {Q : Int32 → Gu → Prop} (hE : REc vu S kp 10) (hu : u < 100) (h1 : 1 ≤ u % 10) (hd : day ≤ 60) (h : Q (nI (sbA S kp u day)) vu) : wpX4_seenBy vu (nI u) (nI day) Q := by
  unfold sbA at h
  unfold wpX4_seenBy
  have e1 : nI u / 10 = nI (u / 10) := by simp (disch := omega) only [k_0, k_1, k_2, k_3, k_4, k_5, k_6, k_7, k_8, k_9, k_10, k_15, k_16, k_18, k_20, k_26, k_27, k_31, k_33, k_46, k_48, k_49, k_51, k_53, k_57, k_60, k_61, k_63, k_64, k_65, k_70, k_71, k_74, k_75, k_80, k_81, k_82, k_83, k_84, k_85, k_98, k_99, k_100, k_102, k_114, k_115, k_119, k_121, k_126, k_200, k_999, k_1000, k_3000, k_9999, k_65537, k_1000000, k_999999999, k_500, n_mul, n_add, n_sub, n_div]
  have e2 : nI u - nI u / 10 * 10 = nI (u % 10) := by
    simp (disch := omega) only [k_0, k_1, k_2, k_3, k_4, k_5, k_6, k_7, k_8, k_9, k_10, k_15, k_16, k_18, k_20, k_26, k_27, k_31, k_33, k_46, k_48, k_49, k_51, k_53, k_57, k_60, k_61, k_63, k_64, k_65, k_70, k_71, k_74, k_75, k_80, k_81, k_82, k_83, k_84, k_85, k_98, k_99, k_100, k_102, k_114, k_115, k_119, k_121, k_126, k_200, k_999, k_1000, k_3000, k_9999, k_65537, k_1000000, k_999999999, k_500, n_mul, n_add, n_sub, n_div]
    congr 1; omega
  rw [e2, e1]
  refine nm_e ?_
  by_cases q : u / 10 ≤ day
  · rw [if_pos q] at h
    have e3 : nI day - nI (u / 10) = nI (day - u / 10) := by simp (disch := omega) only [k_0, k_1, k_2, k_3, k_4, k_5, k_6, k_7, k_8, k_9, k_10, k_15, k_16, k_18, k_20, k_26, k_27, k_31, k_33, k_46, k_48, k_49, k_51, k_53, k_57, k_60, k_61, k_63, k_64, k_65, k_70, k_71, k_74, k_75, k_80, k_81, k_82, k_83, k_84, k_85, k_98, k_99, k_100, k_102, k_114, k_115, k_119, k_121, k_126, k_200, k_999, k_1000, k_3000, k_9999, k_65537, k_1000000, k_999999999, k_500, n_mul, n_add, n_sub, n_div]
    have e4 : (nI (u % 10) - 1) * 61 + nI (day - u / 10) = nI ((u % 10 - 1) * 61 + (day - u / 10)) := by simp (disch := omega) only [k_0, k_1, k_2, k_3, k_4, k_5, k_6, k_7, k_8, k_9, k_10, k_15, k_16, k_18, k_20, k_26, k_27, k_31, k_33, k_46, k_48, k_49, k_51, k_53, k_57, k_60, k_61, k_63, k_64, k_65, k_70, k_71, k_74, k_75, k_80, k_81, k_82, k_83, k_84, k_85, k_98, k_99, k_100, k_102, k_114, k_115, k_119, k_121, k_126, k_200, k_999, k_1000, k_3000, k_9999, k_65537, k_1000000, k_999999999, k_500, n_mul, n_add, n_sub, n_div]
    rw [e3, e4, nI_clamp (show (u % 10 - 1) * 61 + (day - u / 10) < 2 ^ 31 by omega), hE (u % 10) (day - u / 10) h1 (by omega) (by omega)]
    exact ck1X6_isAhead (fun c => absurd (inR_of (n := 60) (by decide) (by omega)) c) (fun _ => ⟨vp_in_nI (by omega) (by decide), h⟩)
  · rw [if_neg q] at h
    refine ck1X6_isAhead (fun _ => h) (fun c => absurd ?_ c.1)
    have z2 : nI day < nI (u / 10) := nI_lt (by omega) (by omega)
    have e5 : (nI day - nI (u / 10)).toInt = (day : Int) - (u / 10 : Nat) := by
      have e6 : nI day - nI (u / 10) = Int32.ofInt ((day : Int) - (u / 10 : Nat)) := by
        rw [Int32.ofInt_sub]; rfl
      rw [e6, Int32.toInt_ofInt_of_le (by omega) (by omega)]
    have z0 : (0 : Int32).toInt = 0 := by decide
    refine Int32.lt_iff_toInt_lt.mpr ?_
    rw [e5, z0]
    omega
set_option maxHeartbeats 200000 in
theorem pX4_fits {vu : Gu} {g : Gr} {S : Sta} {D : Day} {u : Nat} {Q : Int32 → Gu → Gr → Prop} (hR : RG g S D) (hS : WS S) (hE : REc vu S (zkp D) 10) (hu : u < 100) (hu1 : 1 ≤ u % 10) (h1 : ftA S (zkp D) u → Q 1 vu g) (h0 : ¬ ftA S (zkp D) u → Q 0 vu g) : wpX4_fits vu g (nI u) Q := by
  have hns := hS.2.2.2.1
  unfold wpX4_fits
  have key : ∀ i, i ≤ zns S → ∃ n, (∀ j, j < i → sbA S (zkp D) u (zsd S j) = zsa S j) → wpX4_fits_L2 Q n vu g (nI u) (nI i) := by
    refine up_loop (zns S) (fun n => ?_) (fun n i hi ih => ?_)
    · intro y
      show wpX4_fits_H2 Q _ _ _ _ _
      unfold wpX4_fits_H2
      rw [show Gr_sights g = nI (zns S) from hR.2.2.2.1]
      exact br_t (nI_le (Nat.le_refl _) (by omega)) (h1 y)
    · intro y
      show wpX4_fits_H2 Q _ _ _ _ _
      unfold wpX4_fits_H2
      have a1 := hS.2.2.2.2.1 i
      have a2 := hS.2.2.2.2.2 i
      have a3 := sbA_le S (zkp D) u (zsd S i)
      rw [show Gr_sights g = nI (zns S) from hR.2.2.2.1, aI_rd hR.2.2.2.2.1 (show i < 8 by omega), aI_rd hR.2.2.2.2.2.1 (show i < 8 by omega)]
      refine br_f (nI_ge hi (by omega)) ⟨vp_in_nI (by omega) (by decide), pX4_seenBy hE hu hu1 a1 ⟨vp_in_nI (by omega) (by decide), ?_⟩⟩
      refine pk_eq (sbA S (zkp D) u (zsd S i)) (zsa S i) (fun q => nm_r (nI_1 i) (ih (fun j hj => ?_))) (fun q => h0 (fun w => q (w i hi)))
      by_cases q2 : j = i
      · rw [q2]; exact q
      · exact y j (by omega)
  obtain ⟨n, hn⟩ := key 0 (Nat.zero_le _)
  exact ⟨n, hn (fun j hj => absurd hj (Nat.not_lt_zero j))⟩
