/-! days played: spec -/
abbrev isCol (s : Nat) : Prop := s = 114 ∨ s = 121 ∨ s = 98
def colN (s : Nat) : Nat := if s = 114 then 0 else if s = 121 then 1 else 2
abbrev isDrs (s : Nat) : Prop := 65 ≤ s ∧ s ≤ 70
def hdA (S : Sta) (D : Day) (k : Nat) : Nat := if zsh D 0 + zds S (3 * k + 0) ≤ 999 ∧ zsh D 1 + zds S (3 * k + 1) ≤ 999 ∧ zsh D 2 + zds S (3 * k + 2) ≤ 999 then (if hasN (zou D) k then 2 else 0) else 1
def hinA (S : Sta) (D : Day) (s x : Nat) : Nat := if isCol s then (if zsh D (colN s) + 10 * x ≤ 999 then 0 else 1) else if isDrs s then hdA S D (s - 65) else if s = 119 then (if zkp D x = 0 then 3 else 0) else if s = 46 then (if zdy D < 99 then 0 else 4) else 0
def drsA (S : Sta) (D : Day) (k : Nat) : Day := (fun c => if c < 3 then zsh D c + zds S (3 * k + c) else 0, ztn D, zkp D, zfg D, zsn D, zou D + 2 ^ k, zdy D)
def actA (S : Sta) (D : Day) (s x : Nat) : Day := if isCol s then (fU (zsh D) (colN s) (zsh D (colN s) + 10 * x), D.2) else if isDrs s then drsA S D (s - 65) else if s = 102 then (zsh D, ztn D, zkp D, 1 - zfg D, zsn D, zou D, zdy D) else if s = 115 then (zsh D, ztn D, zkp D, zfg D, 1 - zsn D, zou D, zdy D) else if s = 119 then (zsh D, ztn D, fU (zkp D) x 0, D.2.2.2) else passA (zoff S) D
def noteA (S : Sta) (d0 : Nat) (D : Day) (b : Option Nat) : Option Nat := match b with
  | some b => some b
  | none => if overA (zoff S) (zlim S) D then some (zdy D - d0) else none
def dgA (sg : Nat → Nat) (p : Nat) : Nat := if takes (sg p) then sg (p + 1) - 48 else 0
def lenA (sg : Nat → Nat) (p : Nat) : Nat := if takes (sg p) then 2 else 1
def playA (S : Sta) (sg : Nat → Nat) (cnt d0 : Nat) : Nat → Nat → Nat → Day → Option Nat → Nat × Nat × Day × Option Nat
  | 0, _, a, D, b => (0, a, D, noteA S d0 D b)
  | n + 1, p, a, D, b => if cnt ≤ p then (0, a, D, noteA S d0 D b) else if hinA S D (sg p) (dgA sg p) = 0 then playA S sg cnt d0 n (p + lenA sg p) (a + 1) (actA S D (sg p) (dgA sg p)) (if sg p = 46 then noteA S d0 D b else b) else (hinA S D (sg p) (dgA sg p), a, D, b)
/-- a day as it stands between calls -/
def WE (D : Day) : Prop := WD D ∧ zdy D ≤ 99 ∧ ∀ j, zsh D j ≤ 999
set_option maxHeartbeats 200000 in
theorem lor_1 : ∀ k, k < 6 → ∀ o, o < 64 → ¬ hasN o k → nI o ||| (1 <<< (nI k &&& 31)) = nI (o + 2 ^ k) ∧ o + 2 ^ k < 64 := by decide
set_option maxHeartbeats 200000 in
theorem colN_lt (s : Nat) : colN s < 3 := by unfold colN; split; decide; split <;> decide
set_option maxHeartbeats 200000 in
/-- one sign's worth of a pad without a fault -/
theorem flt_ok {sg : Nat → Nat} {cnt n p : Nat} (h : flt sg cnt (n + 1) p = -6) (hp : p < cnt) (hc : cnt ≤ 60) : (takes (sg p) ∧ p + 1 < cnt ∧ digOk (sg p) (sg (p + 1)) ∧ flt sg cnt n (p + 2) = -6) ∨ (¬ takes (sg p) ∧ alone (sg p) ∧ flt sg cnt n (p + 1) = -6) := by
  have e : flt sg cnt (n + 1) p = if cnt ≤ p then -6 else if takes (sg p) then (if cnt ≤ p + 1 then nI cnt else if digOk (sg p) (sg (p + 1)) then flt sg cnt n (p + 2) else nI (p + 1)) else if alone (sg p) then flt sg cnt n (p + 1) else nI p := rfl
  rw [e, if_neg (by omega)] at h
  by_cases q1 : takes (sg p)
  · rw [if_pos q1] at h
    by_cases q2 : cnt ≤ p + 1
    · rw [if_pos q2] at h; exact absurd h (nI_ne6 (by omega))
    · rw [if_neg q2] at h
      by_cases q3 : digOk (sg p) (sg (p + 1))
      · rw [if_pos q3] at h; exact Or.inl ⟨q1, by omega, q3, h⟩
      · rw [if_neg q3] at h; exact absurd h (nI_ne6 (by omega))
  · rw [if_neg q1] at h
    by_cases q2 : alone (sg p)
    · rw [if_pos q2] at h; exact Or.inr ⟨q1, q2, h⟩
    · rw [if_neg q2] at h; exact absurd h (nI_ne6 (by omega))
set_option maxHeartbeats 200000 in
theorem actA_WE {S : Sta} {D : Day} {s x : Nat} (hS : WS S) (hE : WE D) (hx : x ≤ 9) (hst : takes s ∨ alone s) (h : hinA S D s x = 0) : WE (actA S D s x) ∧ zdy D ≤ zdy (actA S D s x) := by
  obtain ⟨hD, hy, hs⟩ := hE
  obtain ⟨h1, h2, h3, h4, h5, h6, h7⟩ := hD
  unfold hinA at h
  unfold actA
  by_cases c1 : isCol s
  · rw [if_pos c1] at h ⊢
    have c := colN_lt s
    have hb : zsh D (colN s) + 10 * x ≤ 999 := by
      rcases Nat.lt_or_ge 999 (zsh D (colN s) + 10 * x) with q | q
      · rw [if_neg (by omega)] at h; exact absurd h (by decide)
      · exact q
    refine ⟨⟨⟨fU_le h1 (by omega), h2, h3, h4, h5, h6, h7⟩, hy, fun j => ?_⟩, Nat.le_refl _⟩
    show fU (zsh D) (colN s) _ j ≤ 999
    unfold fU
    split
    · exact hb
    · exact hs j
  rw [if_neg c1] at h ⊢
  by_cases c2 : isDrs s
  · rw [if_pos c2] at h ⊢
    unfold hdA at h
    by_cases q : zsh D 0 + zds S (3 * (s - 65) + 0) ≤ 999 ∧ zsh D 1 + zds S (3 * (s - 65) + 1) ≤ 999 ∧ zsh D 2 + zds S (3 * (s - 65) + 2) ≤ 999
    · rw [if_pos q] at h
      by_cases q2 : hasN (zou D) (s - 65)
      · rw [if_pos q2] at h; exact absurd h (by decide)
      · have hl := (lor_1 (s - 65) (by omega) _ h6 q2).2
        have hb : ∀ j, zsh (drsA S D (s - 65)) j ≤ 999 := by
          intro j
          show (if j < 3 then zsh D j + zds S (3 * (s - 65) + j) else 0) ≤ 999
          split
          · rcases (show j = 0 ∨ j = 1 ∨ j = 2 by omega) with rfl | rfl | rfl
            · exact q.1
            · exact q.2.1
            · exact q.2.2
          · exact Nat.zero_le _
        exact ⟨⟨⟨fun j => Nat.le_trans (hb j) (by decide), h2, h3, h4, h5, hl, h7⟩, hy, hb⟩, Nat.le_refl _⟩
    · rw [if_neg q] at h; exact absurd h (by decide)
  rw [if_neg c2] at h ⊢
  by_cases c3 : s = 102
  · rw [if_pos c3]
    exact ⟨⟨⟨h1, h2, h3, (by show 1 - zfg D ≤ 1; omega), h5, h6, h7⟩, hy, hs⟩, Nat.le_refl _⟩
  rw [if_neg c3]
  by_cases c4 : s = 115
  · rw [if_pos c4]
    exact ⟨⟨⟨h1, h2, h3, h4, (by show 1 - zsn D ≤ 1; omega), h6, h7⟩, hy, hs⟩, Nat.le_refl _⟩
  rw [if_neg c4]
  by_cases c5 : s = 119
  · rw [if_pos c5]
    exact ⟨⟨⟨h1, h2, fU_le h3 (Nat.zero_le _), h4, h5, h6, h7⟩, hy, hs⟩, Nat.le_refl _⟩
  rw [if_neg c5] at h ⊢
  have c6 : s = 46 := by omega
  rw [if_pos c6] at h
  have hb : zdy D < 99 := by
    rcases Nat.lt_or_ge (zdy D) 99 with q | q
    · exact q
    · rw [if_neg (by omega)] at h; exact absurd h (by decide)
  refine ⟨⟨passA_WD ⟨h1, h2, h3, h4, h5, h6, h7⟩ (by omega), (by show zdy D + 1 ≤ 99; omega), fun j => Nat.zero_le _⟩, (by show zdy D ≤ zdy D + 1; omega)⟩

set_option maxHeartbeats 200000 in
theorem pX3_hindranceOfDress {g : Gr} {S : Sta} {D : Day} {k : Nat} {Q : Int32 → Gr → Prop} (hR : RG g S D) (hS : WS S) (hE : WE D) (hk : k < 6) (h : Q (nI (hdA S D k)) g) : wpX3_hindranceOfDress g (nI k) Q := by
  obtain ⟨hD, -, hs⟩ := hE
  have hsh : aI 3 (Gr_today g) (zsh D) := hR.2.2.2.2.2.2.1
  have hou : Gr_worn g = nI (zou D) := hR.2.2.2.2.2.2.2.2.2.2.2.1
  have ho := hD.2.2.2.2.2.1
  have step : ∀ n i, i < 3 → (zsh D i + zds S (3 * k + i) ≤ 999 → wpX3_hindranceOfDress_L2 Q n g (nI k) (nI (i + 1))) → (¬ zsh D i + zds S (3 * k + i) ≤ 999 → Q 1 g) → wpX3_hindranceOfDress_L2 Q (n + 1) g (nI k) (nI i) := by
    intro n i hi h1 h0
    show wpX3_hindranceOfDress_H2 Q _ _ _ _
    unfold wpX3_hindranceOfDress_H2
    have b1 := hs i
    have b2 := hS.2.1 (3 * k + i)
    refine br_f (nI_ge hi (by decide)) ⟨vp_in_nI hi (by decide), pX3_worth hR hk hi ?_⟩
    rw [aI_rd hsh hi, n_add]
    exact pk_le _ 999 (fun q => nm_r (nI_1 i) (h1 q)) (fun q => h0 (by omega))
  have fin : ∀ n, (hasN (zou D) k → Q 2 g) → (¬ hasN (zou D) k → Q 0 g) → wpX3_hindranceOfDress_L2 Q (n + 1) g (nI k) (nI 3) := by
    intro n h1 h0
    show wpX3_hindranceOfDress_H2 Q _ _ _ _
    unfold wpX3_hindranceOfDress_H2
    rw [hou]
    exact br_t (by decide) (pX6_has (by omega) (by omega) (fun q => br_f one_ne (h1 q)) (fun q => br_t rfl (h0 q)))
  unfold hdA at h
  unfold wpX3_hindranceOfDress
  refine ⟨4, step 3 0 (by decide) (fun q0 => step 2 1 (by decide) (fun q1 => step 1 2 (by decide) (fun q2 => fin 0 (fun q => ?_) (fun q => ?_)) (fun q2 => ?_)) (fun q1 => ?_)) (fun q0 => ?_)⟩
  · rw [if_pos ⟨q0, q1, q2⟩, if_pos q] at h; exact h
  · rw [if_pos ⟨q0, q1, q2⟩, if_neg q] at h; exact h
  · rw [if_neg (fun w => q2 w.2.2)] at h; exact h
  · rw [if_neg (fun w => q1 w.2.1)] at h; exact h
  · rw [if_neg (fun w => q0 w.1)] at h; exact h
set_option maxHeartbeats 200000 in
theorem pX3_wear {g : Gr} {S : Sta} {D : Day} {k : Nat} {Q : Gr → Prop} (hR : RG g S D) (hE : WE D) (hk : k < 6) (hw : ¬ hasN (zou D) k) (h : ∀ g', RG g' S (drsA S D k) → Q g') : wpX3_wear g (nI k) Q := by
  have ho := hE.1.2.2.2.2.2.1
  unfold wpX3_wear
  have key : ∀ i, i ≤ 3 → ∃ n, ∀ g : Gr, RG g S ((fun c => if c < i then zsh D c + zds S (3 * k + c) else zsh D c), D.2) → wpX3_wear_L2 Q n g (nI k) (nI i) := by
    refine up_loop 3 (fun n => ?_) (fun n i hi ih => ?_)
    · intro g hR
      show wpX3_wear_H2 Q _ _ _ _
      unfold wpX3_wear_H2
      obtain ⟨r1, r2, r3, r4, r5, r6, r7, r8, r9, r10, r11, r12, r13⟩ := hR
      refine br_t (nI_le (by decide) (by decide)) (h _ ⟨r1, r2, r3, r4, r5, r6, aI_cg r7 (fun j hj => ?_), r8, r9, r10, r11, ?_, r13⟩)
      · show (if j < 3 then zsh D j + zds S (3 * k + j) else zsh D j) = (if j < 3 then zsh D j + zds S (3 * k + j) else 0)
        rw [if_pos hj, if_pos hj]
      · show Gr_worn g ||| _ = nI (zou D + 2 ^ k)
        rw [r12]
        exact (lor_1 k hk _ ho hw).1
    · intro g hR
      show wpX3_wear_H2 Q _ _ _ _
      unfold wpX3_wear_H2
      have e2 : Gr_today g (nI i).toNatClampNeg = nI (zsh D i) := by
        rw [aI_rd hR.2.2.2.2.2.2.1 hi]
        exact congrArg nI (if_neg (Nat.lt_irrefl i))
      refine br_f (nI_ge hi (by decide)) ⟨vp_in_nI hi (by decide), pX3_worth hR hk hi ⟨vp_in_nI hi (by decide), nm_r (nI_1 i) ?_⟩⟩
      rw [e2, n_add]
      obtain ⟨r1, r2, r3, r4, r5, r6, r7, r8⟩ := hR
      refine ih _ ⟨r1, r2, r3, r4, r5, r6, aI_cg (aI_up r7) (fun j hj => ?_), r8⟩
      show (if j = i then zsh D i + zds S (3 * k + i) else if j < i then zsh D j + zds S (3 * k + j) else zsh D j) = (if j < i + 1 then zsh D j + zds S (3 * k + j) else zsh D j)
      by_cases q : j = i
      · rw [if_pos q, if_pos (by omega), q]
      · rw [if_neg q]
        by_cases q3 : j < i
        · rw [if_pos q3, if_pos (by omega)]
        · rw [if_neg q3, if_neg (by omega)]
  obtain ⟨n, hn⟩ := key 0 (Nat.zero_le _)
  obtain ⟨r1, r2, r3, r4, r5, r6, r7, r8⟩ := hR
  refine ⟨n, hn g ⟨r1, r2, r3, r4, r5, r6, aI_cg r7 (fun j hj => ?_), r8⟩⟩
  show _ = (if j < 0 then zsh D j + zds S (3 * k + j) else zsh D j)
  rw [if_neg (Nat.not_lt_zero j)]
set_option maxHeartbeats 200000 in
theorem pX3_hindrance {g : Gr} {S : Sta} {D : Day} {s x : Nat} {Q : Int32 → Gr → Prop} (hR : RG g S D) (hS : WS S) (hE : WE D) (hs : s < 1000) (hx : x ≤ 9) (hw : s = 119 → x ≤ 3) (h : Q (nI (hinA S D s x)) g) : wpX3_hindrance g (nI s) (nI x) Q := by
  have hsh : aI 3 (Gr_today g) (zsh D) := hR.2.2.2.2.2.2.1
  have hkp : aI 4 (Gr_keeps g) (zkp D) := hR.2.2.2.2.2.2.2.2.1
  have hdy : Gr_day g = nI (zdy D) := hR.2.2.2.2.2.2.2.2.2.2.2.2
  have y1 := hE.2.1
  have col : ∀ c, c < 3 → isCol s → colN s = c → vp_in (nI c) 3 ∧ (((((Gr_today g) (nI c).toNatClampNeg) + ((10 : Int32) * nI x)) ≤ (999 : Int32) → Q (0 : Int32) g) ∧ (¬ (((Gr_today g) (nI c).toNatClampNeg) + ((10 : Int32) * nI x)) ≤ (999 : Int32) → Q (1 : Int32) g)) := by
    intro c hc hi hcc
    unfold hinA at h
    rw [if_pos hi, hcc] at h
    have b1 := hE.2.2 c
    refine ⟨vp_in_nI hc (by decide), ?_⟩
    have e : Gr_today g (nI c).toNatClampNeg + 10 * nI x = nI (zsh D c + 10 * x) := by
      rw [aI_rd hsh hc]
      simp (disch := omega) only [k_0, k_1, k_2, k_3, k_4, k_5, k_6, k_7, k_8, k_9, k_10, k_15, k_16, k_18, k_20, k_26, k_27, k_31, k_33, k_46, k_48, k_49, k_51, k_53, k_57, k_60, k_61, k_63, k_64, k_65, k_70, k_71, k_74, k_75, k_80, k_81, k_82, k_83, k_84, k_85, k_98, k_99, k_100, k_102, k_114, k_115, k_119, k_121, k_126, k_200, k_999, k_1000, k_3000, k_9999, k_65537, k_1000000, k_999999999, k_500, n_mul, n_add, n_sub, n_div]
    rw [e]
    refine pk_le _ 999 (fun q => ?_) (fun q => ?_)
    · rw [if_pos q] at h; exact h
    · rw [if_neg (by omega)] at h; exact h
  unfold wpX3_hindrance
  refine pX5_colourOf hs (fun q => ?_) (fun q => ?_) (fun q => ?_) (fun q1 q2 q3 => ?_)
  · exact br_f (by decide) (col 0 (by decide) (Or.inl q) (by subst q; rfl))
  · exact br_f (by decide) (col 1 (by decide) (Or.inr (Or.inl q)) (by subst q; rfl))
  · exact br_f (by decide) (col 2 (by decide) (Or.inr (Or.inr q)) (by subst q; rfl))
  · have nc : ¬ isCol s := by omega
    unfold hinA at h
    rw [if_neg nc] at h
    refine br_t rfl (pX5_dressOf hs (fun d1 d2 => br_f (nI_ne6 (by omega)) ?_) (fun nd => br_t rfl ?_))
    · rw [if_pos ⟨d1, d2⟩] at h
      exact pX3_hindranceOfDress hR hS hE (by omega) h
    · rw [if_neg nd] at h
      refine pk_ne s 119 (fun c5 => ?_) (fun c5 => ?_)
      · rw [if_neg c5] at h
        refine pk_ne s 46 (fun c6 => ?_) (fun c6 => ?_)
        · rw [if_neg c6] at h; exact h
        · rw [if_pos c6] at h
          rw [hdy]
          refine pk_lt (zdy D) 99 (fun q => ?_) (fun q => ?_)
          · rw [if_pos q] at h; exact h
          · rw [if_neg (by omega)] at h; exact h
      · rw [if_pos c5] at h
        have x3 := hw c5
        have b3 := hE.1.2.2.1 x
        refine ck1X6_isWall (fun c => absurd (inR_of (n := 3) (by decide) x3) c) (fun _ => ⟨vp_in_nI (by omega) (by decide), ?_⟩)
        rw [aI_rd hkp (by omega)]
        refine pk_le (zkp D x) 0 (fun q => ?_) (fun q => ?_)
        · rw [if_pos (by omega)] at h; exact h
        · rw [if_neg (by omega)] at h; exact h
set_option maxHeartbeats 200000 in
theorem tog {a : Nat} (h : a ≤ 1) : (a ≠ 0 → 1 - a = 0) ∧ (a = 0 → 1 - a = 1) := by omega
set_option maxHeartbeats 200000 in
theorem pX3_act {g : Gr} {S : Sta} {D : Day} {s x : Nat} {Q : Gr → Prop} (hR : RG g S D) (hS : WS S) (hE : WE D) (hs : s < 1000) (hx : x ≤ 9) (hw : s = 119 → x ≤ 3) (hst : takes s ∨ alone s) (hin : hinA S D s x = 0) (h : ∀ g', RG g' S (actA S D s x) → Q g') : wpX3_act g (nI s) (nI x) Q := by
  have hD := hE.1
  obtain ⟨r1, r2, r3, r4, r5, r6, r7, r8, r9, r10, r11, r12, r13⟩ := hR
  have col : ∀ c, c < 3 → isCol s → colN s = c → vp_in (nI c) 3 ∧ (vp_in (nI c) 3 ∧ Q (Gr_s_today g (upd (Gr_today g) (nI c).toNatClampNeg (((Gr_today g) (nI c).toNatClampNeg) + ((10 : Int32) * nI x))))) := by
    intro c hc hi hcc
    unfold actA at h
    rw [if_pos hi, hcc] at h
    have b1 := hE.2.2 c
    refine ⟨vp_in_nI hc (by decide), vp_in_nI hc (by decide), ?_⟩
    have e : Gr_today g (nI c).toNatClampNeg + 10 * nI x = nI (zsh D c + 10 * x) := by
      rw [aI_rd r7 hc]
      simp (disch := omega) only [k_0, k_1, k_2, k_3, k_4, k_5, k_6, k_7, k_8, k_9, k_10, k_15, k_16, k_18, k_20, k_26, k_27, k_31, k_33, k_46, k_48, k_49, k_51, k_53, k_57, k_60, k_61, k_63, k_64, k_65, k_70, k_71, k_74, k_75, k_80, k_81, k_82, k_83, k_84, k_85, k_98, k_99, k_100, k_102, k_114, k_115, k_119, k_121, k_126, k_200, k_999, k_1000, k_3000, k_9999, k_65537, k_1000000, k_999999999, k_500, n_mul, n_add, n_sub, n_div]
    rw [e]
    exact h _ ⟨r1, r2, r3, r4, r5, r6, aI_up r7, r8, r9, r10, r11, r12, r13⟩
  unfold wpX3_act
  refine pX5_colourOf hs (fun q => ?_) (fun q => ?_) (fun q => ?_) (fun q1 q2 q3 => ?_)
  · exact pX5_dressOf hs (fun _ _ => br_f (by decide) (col 0 (by decide) (Or.inl q) (by subst q; rfl))) (fun _ => br_f (by decide) (col 0 (by decide) (Or.inl q) (by subst q; rfl)))
  · exact pX5_dressOf hs (fun _ _ => br_f (by decide) (col 1 (by decide) (Or.inr (Or.inl q)) (by subst q; rfl))) (fun _ => br_f (by decide) (col 1 (by decide) (Or.inr (Or.inl q)) (by subst q; rfl)))
  · exact pX5_dressOf hs (fun _ _ => br_f (by decide) (col 2 (by decide) (Or.inr (Or.inr q)) (by subst q; rfl))) (fun _ => br_f (by decide) (col 2 (by decide) (Or.inr (Or.inr q)) (by subst q; rfl)))
  · have nc : ¬ isCol s := by omega
    unfold actA at h
    unfold hinA at hin
    rw [if_neg nc] at h hin
    refine pX5_dressOf hs (fun d1 d2 => br_t rfl (br_f (nI_ne6 (by omega)) ?_)) (fun nd => br_t rfl (br_t rfl ?_))
    · have dd : isDrs s := ⟨d1, d2⟩
      rw [if_pos dd] at h hin
      have nh : ¬ hasN (zou D) (s - 65) := by
        intro q
        unfold hdA at hin
        rw [if_pos q] at hin
        split at hin
        · exact absurd hin (by decide)
        · exact absurd hin (by decide)
      exact pX3_wear ⟨r1, r2, r3, r4, r5, r6, r7, r8, r9, r10, r11, r12, r13⟩ hE (by omega) nh h
    · rw [if_neg nd] at h hin
      have f1 := hD.2.2.2.1
      have f2 := hD.2.2.2.2.1
      refine pk_ne s 102 (fun c3 => ?_) (fun c3 => ?_)
      · rw [if_neg c3] at h
        refine pk_ne s 115 (fun c4 => ?_) (fun c4 => ?_)
        · rw [if_neg c4] at h
          refine pk_ne s 46 (fun c6 => ?_) (fun c6 => ?_)
          · refine pk_ne s 119 (fun c5 => ?_) (fun c5 => ?_)
            · exfalso; omega
            · rw [if_pos c5] at h
              have x3 := hw c5
              exact ck1X6_isWall (fun c => absurd (inR_of (n := 3) (by decide) x3) c) (fun _ => ⟨vp_in_nI (by omega) (by decide), h _ ⟨r1, r2, r3, r4, r5, r6, r7, r8, aI_up r9, r10, r11, r12, r13⟩⟩)
          · rw [if_neg (by omega)] at h
            exact pX3_endDay ⟨r1, r2, r3, r4, r5, r6, r7, r8, r9, r10, r11, r12, r13⟩ hS hD h
        · rw [if_pos c4] at h
          rw [r11]
          refine pk_ne (zsn D) 0 (fun q => h _ ⟨r1, r2, r3, r4, r5, r6, r7, r8, r9, r10, ?_, r12, r13⟩) (fun q => h _ ⟨r1, r2, r3, r4, r5, r6, r7, r8, r9, r10, ?_, r12, r13⟩)
          · exact congrArg nI ((tog f2).1 q).symm
          · exact congrArg nI ((tog f2).2 q).symm
      · rw [if_pos c3] at h
        rw [r10]
        refine pk_ne (zfg D) 0 (fun q => h _ ⟨r1, r2, r3, r4, r5, r6, r7, r8, r9, ?_, r11, r12, r13⟩) (fun q => h _ ⟨r1, r2, r3, r4, r5, r6, r7, r8, r9, ?_, r11, r12, r13⟩)
        · exact congrArg nI ((tog f1).1 q).symm
        · exact congrArg nI ((tog f1).2 q).symm
set_option maxHeartbeats 200000 in
theorem pX5_digitAt {v : Pd} {sg : Nat → Nat} {cnt p : Nat} {Q : Int32 → Pd → Prop} (hR : RPd v sg cnt) (hs : ∀ j, 0 ≤ sg j ∧ sg j ≤ 126) (hc : cnt ≤ 60) (hp : p < 60) (hok : takes (sg p) → p + 1 < cnt ∧ 48 ≤ sg (p + 1)) (h : Q (nI (dgA sg p)) v) : wpX5_digitAt v (nI p) Q := by
  have b1 := hs p
  have b2 := hs (p + 1)
  unfold dgA at h
  unfold wpX5_digitAt
  rw [aI_rd hR.1 hp, hR.2, nI_1]
  refine ⟨vp_in_nI hp (by decide), pX5_takesDigit (by omega) (fun q => br_f one_ne ?_) (fun q => br_t rfl ?_)⟩
  · rw [if_pos q] at h
    have q2 := hok q
    rw [aI_rd hR.1 (show p + 1 < 60 by omega)]
    refine br_f (nI_ge q2.1 (by omega)) ⟨vp_in_nI (by omega) (by decide), ?_⟩
    have e : nI (sg (p + 1)) - 48 = nI (sg (p + 1) - 48) := by simp (disch := omega) only [k_0, k_1, k_2, k_3, k_4, k_5, k_6, k_7, k_8, k_9, k_10, k_15, k_16, k_18, k_20, k_26, k_27, k_31, k_33, k_46, k_48, k_49, k_51, k_53, k_57, k_60, k_61, k_63, k_64, k_65, k_70, k_71, k_74, k_75, k_80, k_81, k_82, k_83, k_84, k_85, k_98, k_99, k_100, k_102, k_114, k_115, k_119, k_121, k_126, k_200, k_999, k_1000, k_3000, k_9999, k_65537, k_1000000, k_999999999, k_500, n_mul, n_add, n_sub, n_div]
    rw [e]; exact h
  · rw [if_neg q] at h; exact h
set_option maxHeartbeats 200000 in
theorem oI_ne {o : Option Nat} (h : ∀ b, o = some b → b ≤ 1000) : oI o = -6 ↔ o = none := by
  cases o with
  | none => exact ⟨fun _ => rfl, fun _ => rfl⟩
  | some b => exact ⟨fun q => absurd q (nI_ne6 (by have := h b rfl; omega)), fun q => nomatch q⟩
set_option maxHeartbeats 200000 in
theorem pX1_noteOver {y : Dy} {e : Gr} {S : Sta} {D : Day} {b : Option Nat} {d0 : Nat} {Q : Dy → Gr → Prop} (hR : RG e S D) (hS : WS S) (hD : WD D) (hd : d0 ≤ zdy D) (hb : ∀ x, b = some x → x ≤ 1000) (hy : Dy_firstOver y = oI b) (h : Q (Dy_s_firstOver y (oI (noteA S d0 D b))) e) : wpX1_noteOver y e (nI d0) Q := by
  have hdy : Gr_day e = nI (zdy D) := hR.2.2.2.2.2.2.2.2.2.2.2.2
  unfold wpX1_noteOver
  cases b with
  | some x =>
    have e2 : y = Dy_s_firstOver y (oI (some x)) := by
      rw [← hy]
    refine bn_t (fun q => ?_) ?_
    · rw [hy] at q; exact absurd q (nI_ne6 (by have := hb x rfl; omega))
    · have e3 : noteA S d0 D (some x) = some x := rfl
      rw [e3, ← e2] at h; exact h
  | none =>
    refine bn_f hy (pX3_isOver hR hS hD (fun q => ?_) (fun q => ?_))
    · have e3 : noteA S d0 D none = some (zdy D - d0) := if_pos q
      rw [e3] at h
      refine br_f one_ne ?_
      rw [hdy, n_sub hd]; exact h
    · have e3 : noteA S d0 D none = none := if_neg q
      have e2 : y = Dy_s_firstOver y (oI none) := by rw [← hy]
      rw [e3, ← e2] at h
      exact br_t rfl h
